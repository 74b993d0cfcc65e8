/-! the law: joins and shares -/
set_option maxHeartbeats 4000000 in
set_option maxRecDepth 10000 in
theorem lw_join {X : z_X} (C : Cx cL_law RL (some .boolean) 100 18 X) (hend : zHend X) {n pg mem : Nat} {L0 L1 : List (Int × Int)} (H : lwH n L0 L1 pg mem) (hn1 : 1 ≤ n) {M : zM} (hS : zSt M 9 pg mem (lwF L0 L1 pg mem)) : G X M 872 [none, some (.ref (zA X 95)), none, none, some (.int (jI (n : Int))), none, none, none, none, none, none, none, none, none, none, none, none, none] [] := by
  have H0 := H
  obtain ⟨hb0, hb1, hl0, hn, hl1, hl2, hpg, hm⟩ := H
  have hA := srL_len L0
  have hB := srL_len L1
  have rA : zRow M 2 (srL L0) := hS.row (by omega) rfl
  have rB : zRow M 6 (srL L1) := hS.row (by omega) rfl
  have bA := srL_in (L := L0) (by omega) hb0
  have bB := srL_in (L := L1) (by omega) hb1
  have uA := srL_up (L := L0) (by omega)
  have uB := srL_up (L := L1) (by omega)
  obtain ⟨W, hW⟩ : ∃ W, W = (jnX (srL L0) (srL L1) 2 (srL L0).length) := ⟨_, rfl⟩
  obtain ⟨V, hV⟩ : ∃ V, V = (jnX (srL L0) (srL L1) 3 (srL L0).length) := ⟨_, rfl⟩
  have two := jnX_two (A := srL L0) (B := srL L1) (srL L0).length
  rw [← hW, ← hV] at two
  have bW : zIn W := by rw [hW]; exact jnX_in bA
  have bV : zIn V := by rw [hV]; exact jnX_in bA
  have pW : ∀ p ∈ W, 0 < kc (srL L1) p.1 := fun p hp => by
    rw [hW] at hp
    obtain ⟨i, -, rfl, q⟩ := jnX_mem hp
    exact q.mpr rfl
  have pV : ∀ p ∈ V, ¬ 0 < kc (srL L1) p.1 := fun p hp => by
    rw [hV] at hp
    obtain ⟨i, -, rfl, q⟩ := jnX_mem hp
    exact fun z => absurd (q.mp z) (by decide)
  have hnd : nd (srL L0) = nd W + nd V := nd_add fun k => by
    rw [hW, hV, jnX_kc k _ (Nat.le_refl _), jnX_kc k _ (Nat.le_refl _), List.take_length]
    by_cases q : 0 < kc (srL L1) k
    · rw [if_pos ⟨fun _ => rfl, fun _ => q⟩, if_neg (fun h => absurd (h.mp q) (by decide))]
      exact ⟨⟨Or.inl, fun h => h.elim id (fun h => absurd h (by omega))⟩, fun h => absurd h.2 (by omega)⟩
    · rw [if_neg (fun h => q (h.mpr rfl)), if_pos ⟨fun h => absurd h q, fun h => absurd h (by decide)⟩]
      exact ⟨⟨Or.inr, fun h => h.elim (fun h => absurd h (by omega)) id⟩, fun h => absurd h.1 (by omega)⟩
  have hsA : shL (srL L0) (srL L1) (srL L0).length = W.length := by rw [hW]; exact shL_jnX _
  have hsW := shL_all pW W.length (Nat.le_refl _)
  have hsV := shL_none pV V.length (Nat.le_refl _)
  have k958 : ∀ N4 : zM, zRow N4 2 (srL L0) → zRow N4 6 (srL L1) → zRow N4 9 W → zRow N4 10 V → N4 95 1 = ((11 : Nat) : Int) → zSt N4 11 pg mem (lwF L0 L1 pg mem) → G X N4 958 [none, some (.ref (zA X 95)), none, none, some (.int (jI (n : Int))), none, none, none, none, none, none, none, none, some (.int (jI ((9 : Nat) : Int))), some (.int (jI ((10 : Nat) : Int))), none, none, none] [] := by
    intro N4 rA_N4 rB_N4 rW_N4 rV_N4 c_N4 s_N4
    refine g_aload_n C dL_law_958 rfl ?_
    refine g_iload C dL_law_959 rfl ?_
    refine g_bipush C dL_law_961 rfl ?_
    refine gc_share C (by decide) tw_817 (Nat.le_of_ble_eq_true rfl) rfl dL_law_963 10 6 (by omega) (by omega) (by omega) bV bB (by omega) c_N4 rV_N4 rB_N4 (fun x5 N5 ⟨x5e, f5⟩ => ?_)
    have rA_N5 : zRow N5 2 (srL L0) := rA_N4.same (fun o _ _ => f5 o (by omega))
    have rB_N5 : zRow N5 6 (srL L1) := rB_N4.same (fun o _ _ => f5 o (by omega))
    have rW_N5 : zRow N5 9 W := rW_N4.same (fun o _ _ => f5 o (by omega))
    have rV_N5 : zRow N5 10 V := rV_N4.same (fun o _ _ => f5 o (by omega))
    have c_N5 : N5 95 1 = ((11 : Nat) : Int) := by rw [f5 95 (by omega)]; exact c_N4
    have s_N5 : zSt N5 11 pg mem (lwF L0 L1 pg mem) := s_N4.same (f5 95 (by omega)) (fun o _ => f5 o (by omega))
    refine g_dconst0 C dL_law_966 ?_
    refine g_dcmp C dL_law_967 ?_
    show G X _ 968 _ _
    have z5 : Op.cmpValue (FP.dcmp x5 FP.dconst0) .l = jI 0 := by
      rw [x5e]; unfold shV
      by_cases q : V.length = 0
      · rw [if_pos q]; exact sh_00.1
      · rw [if_neg q, hsV]; exact sh_zero V.length (by omega) (by omega)
    rw [z5]
    refine g_if_ne (tgt := 992) C dL_law_968 rfl (by omega) (fun h968 => ?_) (fun h968 => ?_)
    · omega
    · refine g_aload_n C dL_law_971 rfl ?_
      refine g_iload C dL_law_972 rfl ?_
      refine gc_distinct C (by decide) tw_450 (Nat.le_of_ble_eq_true rfl) rfl dL_law_974 9 (by omega) (by omega) c_N5 rW_N5 bW (fun x6 N6 ⟨x6e, f6⟩ => ?_)
      have rA_N6 : zRow N6 2 (srL L0) := rA_N5.same (fun o _ _ => f6 o (by omega))
      have rB_N6 : zRow N6 6 (srL L1) := rB_N5.same (fun o _ _ => f6 o (by omega))
      have rW_N6 : zRow N6 9 W := rW_N5.same (fun o _ _ => f6 o (by omega))
      have rV_N6 : zRow N6 10 V := rV_N5.same (fun o _ _ => f6 o (by omega))
      have c_N6 : N6 95 1 = ((11 : Nat) : Int) := by rw [f6 95 (by omega)]; exact c_N5
      have s_N6 : zSt N6 11 pg mem (lwF L0 L1 pg mem) := s_N5.same (f6 95 (by omega)) (fun o _ => f6 o (by omega))
      rw [dcL_all bW] at x6e
      refine g_aload_n C dL_law_977 rfl ?_
      refine g_iload C dL_law_978 rfl ?_
      refine gc_distinct C (by decide) tw_450 (Nat.le_of_ble_eq_true rfl) rfl dL_law_980 10 (by omega) (by omega) c_N6 rV_N6 bV (fun x7 N7 ⟨x7e, f7⟩ => ?_)
      have rA_N7 : zRow N7 2 (srL L0) := rA_N6.same (fun o _ _ => f7 o (by omega))
      have rB_N7 : zRow N7 6 (srL L1) := rB_N6.same (fun o _ _ => f7 o (by omega))
      have rW_N7 : zRow N7 9 W := rW_N6.same (fun o _ _ => f7 o (by omega))
      have rV_N7 : zRow N7 10 V := rV_N6.same (fun o _ _ => f7 o (by omega))
      have c_N7 : N7 95 1 = ((11 : Nat) : Int) := by rw [f7 95 (by omega)]; exact c_N6
      have s_N7 : zSt N7 11 pg mem (lwF L0 L1 pg mem) := s_N6.same (f7 95 (by omega)) (fun o _ => f7 o (by omega))
      rw [dcL_all bV] at x7e
      show G X _ 983 _ _
      refine g_iadd C dL_law_983 ?_
      refine g_aload_n C dL_law_984 rfl ?_
      refine g_iconst C dL_law_985 ?_
      refine gc_distinct C (by decide) tw_450 (Nat.le_of_ble_eq_true rfl) rfl dL_law_986 2 (by omega) (by omega) c_N7 rA_N7 bA (fun x8 N8 ⟨x8e, f8⟩ => ?_)
      have rA_N8 : zRow N8 2 (srL L0) := rA_N7.same (fun o _ _ => f8 o (by omega))
      have rB_N8 : zRow N8 6 (srL L1) := rB_N7.same (fun o _ _ => f8 o (by omega))
      have rW_N8 : zRow N8 9 W := rW_N7.same (fun o _ _ => f8 o (by omega))
      have rV_N8 : zRow N8 10 V := rV_N7.same (fun o _ _ => f8 o (by omega))
      have c_N8 : N8 95 1 = ((11 : Nat) : Int) := by rw [f8 95 (by omega)]; exact c_N7
      have s_N8 : zSt N8 11 pg mem (lwF L0 L1 pg mem) := s_N7.same (f8 95 (by omega)) (fun o _ => f8 o (by omega))
      rw [dcL_all bA] at x8e
      have q6 := dcL_le W W.length
      have q7 := dcL_le V V.length
      rw [dcL_all bW] at q6
      rw [dcL_all bV] at q7
      refine g_icmp_eq (tgt := 994) C dL_law_989 rfl (by omega) (by omega) (fun h989 => ?_) (fun h989 => ?_)
      · refine g_mask [false, true, false, false, true, false, false, false, false, false, false, false, false, false, false, false, false, false] rfl ?_
        show G X _ 994 [_, _, _, _, _, _, _, _, _, _, _, _, _, _, _, _, _, _] _
        exact lw_group C hend H0 s_N8
      · omega
  refine g_aload_n C dL_law_872 rfl ?_
  refine g_iconst C dL_law_873 ?_
  refine g_bipush C dL_law_874 rfl ?_
  refine g_iconst C dL_law_876 ?_
  refine gc_joinX C (by decide) tw_710 (Nat.le_of_ble_eq_true rfl) rfl dL_law_877 2 6 (by omega) (by omega) (by omega) bA bB uA uB pg mem (by omega) (by omega) 2 (Or.inl rfl) hS.1 hS.2.1 hS.2.2.1 rA rB (fun x N1 ⟨a0, a1, a2, a3, a4, a5⟩ => ?_)
  subst a0
  have s1 : zSt N1 10 pg mem (lwF L0 L1 pg mem) := hS.next (by omega) a1 rfl a2 a3 a4 (fun o h1 h2 h3 h4 => a5 o h2 h3 h4 (by omega) (by omega) (by omega) (by omega) (by omega))
  refine g_istore C dL_law_880 (Nat.le_of_ble_eq_true rfl) ?_
  show G X _ 882 [_, _, _, _, _, _, _, _, _, _, _, _, _, _, _, _, _, _] _
  refine g_aload_n C dL_law_882 rfl ?_
  refine g_iconst C dL_law_883 ?_
  refine g_bipush C dL_law_884 rfl ?_
  refine g_iconst C dL_law_886 ?_
  refine gc_joinX C (by decide) tw_710 (Nat.le_of_ble_eq_true rfl) rfl dL_law_887 2 6 (by omega) (by omega) (by omega) bA bB uA uB pg mem (by omega) (by omega) 3 (Or.inr rfl) s1.1 s1.2.1 s1.2.2.1 (s1.row (by omega) rfl) (s1.row (by omega) rfl) (fun x N2 ⟨b0, b1, b2, b3, b4, b5⟩ => ?_)
  subst b0
  have s_N2 : zSt N2 11 pg mem (lwF L0 L1 pg mem) := s1.next (by omega) b1 rfl b2 b3 b4 (fun o h1 h2 h3 h4 => b5 o h2 h3 h4 (by omega) (by omega) (by omega) (by omega) (by omega))
  have c_N2 : N2 95 1 = ((11 : Nat) : Int) := s_N2.1
  have rA_N2 : zRow N2 2 (srL L0) := s_N2.row (by omega) rfl
  have rB_N2 : zRow N2 6 (srL L1) := s_N2.row (by omega) rfl
  have rW_N2 : zRow N2 9 W := s_N2.row (by omega) hW.symm
  have rV_N2 : zRow N2 10 V := s_N2.row (by omega) hV.symm
  refine g_istore C dL_law_890 (Nat.le_of_ble_eq_true rfl) ?_
  show G X _ 892 [_, _, _, _, _, _, _, _, _, _, _, _, _, _, _, _, _, _] _
  refine g_aload_n C dL_law_892 rfl ?_
  refine g_iload C dL_law_893 rfl ?_
  refine gc_size C (by decide) tw_414 (Nat.le_of_ble_eq_true rfl) rfl dL_law_895 9 (by omega) (by omega) c_N2 rW_N2 (?_)
  refine g_aload_n C dL_law_898 rfl ?_
  refine g_iload C dL_law_899 rfl ?_
  refine gc_size C (by decide) tw_414 (Nat.le_of_ble_eq_true rfl) rfl dL_law_901 10 (by omega) (by omega) c_N2 rV_N2 (?_)
  show G X _ 904 _ _
  refine g_iadd C dL_law_904 ?_
  refine g_iload C dL_law_905 rfl ?_
  refine g_icmp_ne (tgt := 992) C dL_law_907 rfl (by omega) (by omega) (fun h907 => ?_) (fun h907 => ?_)
  · omega
  · refine g_aload_n C dL_law_910 rfl ?_
    refine g_iconst C dL_law_911 ?_
    refine g_bipush C dL_law_912 rfl ?_
    refine gc_share C (by decide) tw_817 (Nat.le_of_ble_eq_true rfl) rfl dL_law_914 2 6 (by omega) (by omega) (by omega) bA bB (by omega) c_N2 rA_N2 rB_N2 (fun x N3 ⟨x3, f3⟩ => ?_)
    have rA_N3 : zRow N3 2 (srL L0) := rA_N2.same (fun o _ _ => f3 o (by omega))
    have rB_N3 : zRow N3 6 (srL L1) := rB_N2.same (fun o _ _ => f3 o (by omega))
    have rW_N3 : zRow N3 9 W := rW_N2.same (fun o _ _ => f3 o (by omega))
    have rV_N3 : zRow N3 10 V := rV_N2.same (fun o _ _ => f3 o (by omega))
    have c_N3 : N3 95 1 = ((11 : Nat) : Int) := by rw [f3 95 (by omega)]; exact c_N2
    have s_N3 : zSt N3 11 pg mem (lwF L0 L1 pg mem) := s_N2.same (f3 95 (by omega)) (fun o _ => f3 o (by omega))
    refine g_aload_n C dL_law_917 rfl ?_
    refine g_iload C dL_law_918 rfl ?_
    show G X _ 920 _ _
    refine gc_size C (by decide) tw_414 (Nat.le_of_ble_eq_true rfl) rfl dL_law_920 9 (by omega) (by omega) c_N3 rW_N3 (?_)
    refine g_i2d C dL_law_923 ?_
    refine g_iload C dL_law_924 rfl ?_
    refine g_i2d C dL_law_926 ?_
    refine g_ddiv C dL_law_927 (sh_n64 _ (by omega) _ (by omega) (by omega)) ?_
    refine g_dcmp C dL_law_928 ?_
    show G X _ 929 _ _
    have z3 : Op.cmpValue (FP.dcmp x (FP.ddiv (FP.i2d (jI (W.length : Int))) (FP.i2d (jI (n : Int))))) .l = jI 0 := by
      rw [x3]; unfold shV
      rw [if_neg (by omega), hsA, show (srL L0).length = n by omega]
      exact sh_eq n (by omega) W.length (by omega) (by omega)
    rw [z3]
    refine g_if_ne (tgt := 992) C dL_law_929 rfl (by omega) (fun h929 => ?_) (fun h929 => ?_)
    · omega
    · refine g_aload_n C dL_law_932 rfl ?_
      refine g_iload C dL_law_933 rfl ?_
      refine g_bipush C dL_law_935 rfl ?_
      refine gc_share C (by decide) tw_817 (Nat.le_of_ble_eq_true rfl) rfl dL_law_937 9 6 (by omega) (by omega) (by omega) bW bB (by omega) c_N3 rW_N3 rB_N3 (fun x4 N4 ⟨x4e, f4⟩ => ?_)
      have rA_N4 : zRow N4 2 (srL L0) := rA_N3.same (fun o _ _ => f4 o (by omega))
      have rB_N4 : zRow N4 6 (srL L1) := rB_N3.same (fun o _ _ => f4 o (by omega))
      have rW_N4 : zRow N4 9 W := rW_N3.same (fun o _ _ => f4 o (by omega))
      have rV_N4 : zRow N4 10 V := rV_N3.same (fun o _ _ => f4 o (by omega))
      have c_N4 : N4 95 1 = ((11 : Nat) : Int) := by rw [f4 95 (by omega)]; exact c_N3
      have s_N4 : zSt N4 11 pg mem (lwF L0 L1 pg mem) := s_N3.same (f4 95 (by omega)) (fun o _ => f4 o (by omega))
      refine g_aload_n C dL_law_940 rfl ?_
      refine g_iload C dL_law_941 rfl ?_
      show G X _ 943 _ _
      refine gc_size C (by decide) tw_414 (Nat.le_of_ble_eq_true rfl) rfl dL_law_943 9 (by omega) (by omega) c_N4 rW_N4 (?_)
      refine g_if_le (tgt := 953) C dL_law_946 rfl (by omega) (fun h946 => ?_) (fun h946 => ?_)
      · refine g_dconst0 C dL_law_953 ?_
        refine g_dcmp C dL_law_954 ?_
        have z4 : Op.cmpValue (FP.dcmp x4 FP.dconst0) .g = jI 0 := by
          rw [x4e]; unfold shV
          rw [if_pos (by omega)]; exact sh_00.2
        rw [z4]
        refine g_if_lt (tgt := 992) C dL_law_955 rfl (by omega) (fun h955 => ?_) (fun h955 => ?_)
        · omega
        · refine g_mask [false, true, false, false, true, false, false, false, false, false, false, false, false, true, true, false, false, false] rfl ?_
          show G X _ 958 [_, _, _, _, _, _, _, _, _, _, _, _, _, _, _, _, _, _] _
          exact k958 _ rA_N4 rB_N4 rW_N4 rV_N4 c_N4 s_N4
      · refine g_dconst1 C dL_law_949 ?_
        refine g_goto (tgt := 954) C dL_law_950 rfl ?_
        show G X _ 954 _ _
        refine g_dcmp C dL_law_954 ?_
        have z4 : Op.cmpValue (FP.dcmp x4 FP.dconst1) .g = jI 0 := by
          rw [x4e]; unfold shV
          rw [if_neg (by omega), hsW]; exact sh_one W.length (by omega) (by omega)
        rw [z4]
        refine g_if_lt (tgt := 992) C dL_law_955 rfl (by omega) (fun h955 => ?_) (fun h955 => ?_)
        · omega
        · refine g_mask [false, true, false, false, true, false, false, false, false, false, false, false, false, true, true, false, false, false] rfl ?_
          show G X _ 958 [_, _, _, _, _, _, _, _, _, _, _, _, _, _, _, _, _, _] _
          exact k958 _ rA_N4 rB_N4 rW_N4 rV_N4 c_N4 s_N4
