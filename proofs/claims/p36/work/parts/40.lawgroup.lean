/-! the law: the group -/
set_option maxHeartbeats 4000000 in
set_option maxRecDepth 10000 in
theorem lw_group {X : z_X} (C : Cx cL_law RL (some .boolean) 100 18 X) (hend : zHend X) {n pg mem : Nat} {L0 L1 : List (Int × Int)} (H : lwH n L0 L1 pg mem) {M : zM} (hS : zSt M 11 pg mem (lwF L0 L1 pg mem)) : G X M 994 [none, some (.ref (zA X 95)), none, none, some (.int (jI (n : Int))), none, none, none, none, none, none, none, none, none, none, none, none, none] [] := by
  obtain ⟨hb0, hb1, hl0, hn, hl1, hl2, hpg, hm⟩ := H
  have hA := srL_len L0
  have rA : zRow M 2 (srL L0) := hS.row (by omega) rfl
  have bA := srL_in (L := L0) (by omega) hb0
  have uA := srL_up (L := L0) (by omega)
  obtain ⟨g1, g2, g3, g4⟩ := gg_all uA bA (by omega)
  rw [nd_congr (A := srL L0) (B := L0) (fun k => by rw [kc_perm (srL_perm (by omega)) k])] at g2
  have hgl := ggL_len (srL L0) (srL L0).length
  refine g_aload_n C dL_law_994 rfl ?_
  refine g_iconst C dL_law_995 ?_
  refine g_iconst C dL_law_996 ?_
  refine gc_group C (by decide) tw_785 (Nat.le_of_ble_eq_true rfl) rfl dL_law_997 2 (by omega) (by omega) bA uA pg (by omega) hS.1 hS.2.1 rA (fun x N ⟨n1, rG, n2, n3, n4, n5⟩ => ?_)
  subst n1
  replace n2 : N 95 1 = ((12 : Nat) : Int) := n2
  have r0 : zRow N 0 L0 := (hS.row (by omega) rfl : zRow M 0 L0).same (fun o a b => n5 o (by omega) (by omega) (by omega) (by omega) (by omega) (by omega) (by omega) (by omega))
  have lp : ∀ (fk : Nat) (k : Nat), 200 - k < fk → k ≤ (ggL (srL L0) (srL L0).length).length → G X N 1008 [none, some (.ref (zA X 95)), none, none, some (.int (jI (n : Int))), none, none, none, none, none, none, none, none, none, none, some (.int (jI ((11 : Nat) : Int))), some (.int (jI (smk (ggL (srL L0) (srL L0).length) k))), some (.int (jI (k : Int)))] [] := by
    intro fk
    induction fk with
    | zero => intro k hk; exact absurd hk (Nat.not_lt_zero _)
    | succ fk ih =>
      intro k hk k1
      refine g_iload C dL_law_1008 rfl ?_
      refine g_aload_n C dL_law_1010 rfl ?_
      refine g_iload C dL_law_1011 rfl ?_
      refine gc_size C (by decide) tw_414 (Nat.le_of_ble_eq_true rfl) rfl dL_law_1013 11 (by omega) (by omega) n2 rG (?_)
      refine g_icmp_ge (tgt := 1039) C dL_law_1016 rfl (by omega) (by omega) (fun h1016 => ?_) (fun h1016 => ?_)
      · refine g_aload_n C dL_law_1039 rfl ?_
        refine g_iload C dL_law_1040 rfl ?_
        obtain rfl : k = (ggL (srL L0) (srL L0).length).length := by omega
        refine gc_size C (by decide) tw_414 (Nat.le_of_ble_eq_true rfl) rfl dL_law_1042 11 (by omega) (by omega) n2 rG (?_)
        refine g_aload_n C dL_law_1045 rfl ?_
        refine g_iconst C dL_law_1046 ?_
        refine gc_distinct C (by decide) tw_450 (Nat.le_of_ble_eq_true rfl) rfl dL_law_1047 0 (by omega) (by omega) n2 r0 hb0 (fun x N2 ⟨x1, x2⟩ => ?_)
        rw [dcL_all hb0] at x1
        have rG2 := rG.same (M' := N2) (fun o _ _ => x2 o (by omega))
        have n3 : N2 95 1 = ((12 : Nat) : Int) := by rw [x2 95 (by omega)]; exact n2
        show G X _ 1050 _ _
        refine g_icmp_ne (tgt := 1076) C dL_law_1050 rfl (by omega) (by omega) (fun h1050 => ?_) (fun h1050 => ?_)
        · omega
        · refine g_iload C dL_law_1053 rfl ?_
          refine g_iload C dL_law_1055 rfl ?_
          rw [g1]
          refine g_icmp_ne (tgt := 1076) C dL_law_1057 rfl (by omega) (by omega) (fun h1057 => ?_) (fun h1057 => ?_)
          · omega
          · refine g_aload_n C dL_law_1060 rfl ?_
            refine g_iload C dL_law_1061 rfl ?_
            refine gc_order C (by decide) tw_435 (Nat.le_of_ble_eq_true rfl) rfl dL_law_1063 11 (by omega) (by omega) n3 rG2 g4 (?_)
            rw [if_pos g3]
            obtain ⟨y, hy, hy2⟩ := dy_ok (dnB (ggL (srL L0) (srL L0).length))
            rw [hy]
            refine g_iconst C dL_law_1066 ?_
            refine g_irem C dL_law_1067 (by omega) (by omega) ?_
            refine g_iconst C dL_law_1068 ?_
            show G X _ 1069 _ _
            refine g_icmp_ne (tgt := 1076) C dL_law_1069 rfl (by omega) (by omega) (fun h1069 => ?_) (fun h1069 => ?_)
            · omega
            · refine g_iconst C dL_law_1072 ?_
              refine g_goto (tgt := 1077) C dL_law_1073 rfl ?_
              show G X _ 1077 _ _
              exact hend _ _ _ dL_law_1077
      · refine g_iload C dL_law_1019 rfl ?_
        refine g_aload_n C dL_law_1021 rfl ?_
        refine g_iload C dL_law_1022 rfl ?_
        refine g_iload C dL_law_1024 rfl ?_
        refine g_iconst C dL_law_1026 ?_
        refine gc_at C (by decide) tw_418 (Nat.le_of_ble_eq_true rfl) rfl dL_law_1027 11 (by omega) (by omega) k true (by omega) n2 rG (?_)
        rw [if_pos rfl]
        show G X _ 1030 _ _
        refine g_iadd C dL_law_1030 ?_
        refine g_istore C dL_law_1031 (Nat.le_of_ble_eq_true rfl) ?_
        show G X _ 1033 [_, _, _, _, _, _, _, _, _, _, _, _, _, _, _, _, _, _] _
        refine g_iinc C dL_law_1033 rfl ?_
        show G X _ 1036 [_, _, _, _, _, _, _, _, _, _, _, _, _, _, _, _, _, _] _
        refine g_goto (tgt := 1008) C dL_law_1036 rfl ?_
        show G X _ 1008 _ _
        exact ih (k + 1) (by omega) (by omega)
  refine g_istore C dL_law_1000 (Nat.le_of_ble_eq_true rfl) ?_
  show G X _ 1002 [_, _, _, _, _, _, _, _, _, _, _, _, _, _, _, _, _, _] _
  refine g_iconst C dL_law_1002 ?_
  refine g_istore C dL_law_1003 (Nat.le_of_ble_eq_true rfl) ?_
  show G X _ 1005 [_, _, _, _, _, _, _, _, _, _, _, _, _, _, _, _, _, _] _
  refine g_iconst C dL_law_1005 ?_
  refine g_istore C dL_law_1006 (Nat.le_of_ble_eq_true rfl) ?_
  show G X _ 1008 [_, _, _, _, _, _, _, _, _, _, _, _, _, _, _, _, _, _] _
  exact lp 300 0 (by omega) (by omega)
