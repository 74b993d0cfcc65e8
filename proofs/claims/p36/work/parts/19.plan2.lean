/-! the plan's methods, the rest -/
set_option maxHeartbeats 4000000 in
set_option maxRecDepth 10000 in
theorem c_Plan_mergeByLeast (l : Launch) {r : Nat} (hr : r < 2) (fan pg n : Nat) {rs : List Int} {z : zZ} (hpg : 1 ≤ pg ∧ pg ≤ 100) (hn : n ≤ 120) (hv : zV z.1 (n : Int)) (hf : 2 ≤ fan ∧ fan ≤ 11) (h1 : z.2.2.2.1.length + z.1.length ≤ 119) (h2 : z.2.2.2.2.length + z.1.length ≤ 119) (M : zM) (h : zPl M r (pg : Int) rs z) : Mt l 4 yX4_mergeByLeast cX4_mergeByLeast 4 none (fun ad => [.ref (ad (82 + r)), .int (jI ((fan : Int)))]) M (fun _ vv M' => vv = none ∧ (zPl M' r (pg : Int) rs (leS (pg : Int) fan 120 (mkK z.1.length fan) z) ∧ zFp M M' r)) := by
  refine Mt.of (fun ad => [some (.ref (ad (82 + r))), some (.int (jI ((fan : Int)))), none, none]) (by decide +kernel) (fun _ => rfl) (fun _ => rfl) (fun _ => Nat.le_of_ble_eq_true rfl) fun X hX C hR => ?_
  subst hX
  show G X M 0 [some (.ref ((zA X) (82 + r))), some (.int (jI ((fan : Int)))), none, none] []
  have hrl := h.2.1.2.1
  have hk9 : mkK z.1.length fan ≤ 1000 := by
    have e := mkK_i (len := z.1.length) hf.1
    have h3 : ((z.1.length : Int) - 2) % (if (fan : Int) - 1 ≤ 1 then 1 else (fan : Int) - 1) < (if (fan : Int) - 1 ≤ 1 then 1 else (fan : Int) - 1) := Int.emod_lt_of_pos _ (by by_cases q : (fan : Int) - 1 ≤ 1 <;> simp [q] <;> omega)
    have h4 : (if (fan : Int) - 1 ≤ 1 then (1 : Int) else (fan : Int) - 1) ≤ 100 := by by_cases q : (fan : Int) - 1 ≤ 1 <;> simp [q] <;> omega
    omega
  have lp : ∀ (fk : Nat) (t k : Nat) (w : zZ) (N : zM), 120 - t < fk → t ≤ 120 → k ≤ 1000 → zV w.1 (n : Int) → w.2.2.2.1.length + w.1.length ≤ 119 → w.2.2.2.2.length + w.1.length ≤ 119 → mkD fan w.1.length k → leS (pg : Int) fan (120 - t) k w = leS (pg : Int) fan 120 (mkK z.1.length fan) z → zPl N r (pg : Int) rs w → zFp M N r → G X N 24 [some (.ref (zA X (82 + r))), some (.int (jI (fan : Int))), some (.int (jI (k : Int))), some (.int (jI (t : Int)))] [] := by
    intro fk
    induction fk with
    | zero => intro t k w N hk; exact absurd hk (Nat.not_lt_zero _)
    | succ fk ih =>
      intro t k w N hk t1 t2 t3 t4 t5 t6 t7 hN hF
      have hrl := hN.2.1.2.1
      refine g_iload_n C dX4_mergeByLeast_24 rfl ?_
      refine g_bipush C dX4_mergeByLeast_25 rfl ?_
      refine g_icmp_ge (tgt := 54) C dX4_mergeByLeast_27 rfl (by omega) (by omega) (fun h27 => ?_) (fun h27 => ?_)
      · refine g_vret C hR dX4_mergeByLeast_54 ?_
        refine ⟨rfl, ?_, hF⟩
        have e : leS (pg : Int) fan (120 - t) k w = w := by
          rcases Nat.eq_zero_or_pos (120 - t) with q | q
          · rw [q, leS]
          · rw [show 120 - t = (120 - t - 1) + 1 by omega, leS, if_pos (by omega)]
        rw [← t7, e]
        exact hN
      · refine g_aload_n C dX4_mergeByLeast_30 rfl ?_
        refine gf_Plan_row C (by omega) tw_70 dX4_mergeByLeast_31 ?_
        refine gc_Num_count C (by decide) tw_542 (Nat.le_of_ble_eq_true rfl) rfl dX4_mergeByLeast_34 (by omega) hN.2.1 (?_)
        refine g_iconst C dX4_mergeByLeast_37 ?_
        refine g_icmp_le (tgt := 54) C dX4_mergeByLeast_38 rfl (by omega) (by omega) (fun h38 => ?_) (fun h38 => ?_)
        · refine g_vret C hR dX4_mergeByLeast_54 ?_
          refine ⟨rfl, ?_, hF⟩
          have e : leS (pg : Int) fan (120 - t) k w = w := by
            rcases Nat.eq_zero_or_pos (120 - t) with q | q
            · rw [q, leS]
            · rw [show 120 - t = (120 - t - 1) + 1 by omega, leS, if_pos (by omega)]
          rw [← t7, e]
          exact hN
        · refine g_aload_n C dX4_mergeByLeast_41 rfl ?_
          refine g_iload_n C dX4_mergeByLeast_42 rfl ?_
          have hl : 1 < w.1.length := by omega
          have hd := t6 hl
          refine gc_Plan_mergeLeast C (by decide) tw_560 (Nat.le_of_ble_eq_true rfl) rfl dX4_mergeByLeast_43 hr k pg (n : Int) hpg (by omega) t3 (by omega) (by omega) (by omega) hN (fun N2 ⟨n1, n2⟩ => ?_)
          refine g_iload_n C dX4_mergeByLeast_46 rfl ?_
          refine g_istore_n C dX4_mergeByLeast_47 (Nat.le_of_ble_eq_true rfl) ?_
          show G X _ 48 [_, _, _, _] _
          refine g_iinc C dX4_mergeByLeast_48 rfl ?_
          show G X _ 51 [_, _, _, _] _
          refine g_goto (tgt := 24) C dX4_mergeByLeast_51 rfl ?_
          show G X _ 24 _ _
          have g1 := lsS_keep (pg := (pg : Int)) hd.2.1 t3.1
          exact ih (t + 1) fan _ N2 (by omega) (by omega) (by omega) ⟨g1.1, by rw [g1.2.1]; exact t3.2⟩ (by rw [g1.2.2]; show (w.2.2.2.1 ++ [_]).length + _ ≤ 119; rw [List.length_append]; simp; omega) (by rw [g1.2.2]; show (w.2.2.2.2 ++ [_]).length + _ ≤ 119; rw [List.length_append]; simp; omega) (by rw [g1.2.2]; exact mkD_next hf.1 t6 hl) (by rw [← t7, show 120 - t = (120 - (t + 1)) + 1 by omega, leS, if_neg (by omega)]) n1 (hF.trans n2)
  refine g_aload_n C dX4_mergeByLeast_0 rfl ?_
  refine gf_Plan_row C (by omega) tw_70 dX4_mergeByLeast_1 ?_
  refine gc_Num_count C (by decide) tw_542 (Nat.le_of_ble_eq_true rfl) rfl dX4_mergeByLeast_4 (by omega) h.2.1 (?_)
  refine g_iconst C dX4_mergeByLeast_7 ?_
  refine g_isub C dX4_mergeByLeast_8 ?_
  refine g_iconst C dX4_mergeByLeast_9 ?_
  show G X _ 10 _ _
  refine g_iload_n C dX4_mergeByLeast_10 rfl ?_
  refine g_iconst C dX4_mergeByLeast_11 ?_
  refine g_isub C dX4_mergeByLeast_12 ?_
  refine gc_max C (by decide) tw_532 (Nat.le_of_ble_eq_true rfl) rfl dX4_mergeByLeast_13 _ _ (by omega) (by omega) (?_)
  have hmx : 0 < (if (fan : Int) - 1 ≤ 1 then (1 : Int) else (fan : Int) - 1) ∧ (if (fan : Int) - 1 ≤ 1 then (1 : Int) else (fan : Int) - 1) ≤ 100 := by by_cases q : (fan : Int) - 1 ≤ 1 <;> simp [q] <;> omega
  refine gc_floorMod C (by decide) tw_559 (Nat.le_of_ble_eq_true rfl) rfl dX4_mergeByLeast_16 _ _ (by omega) (by omega) (?_)
  refine g_iconst C dX4_mergeByLeast_19 ?_
  show G X _ 20 _ _
  refine g_iadd C dX4_mergeByLeast_20 ?_
  rw [← mkK_i hf.1]
  refine g_istore_n C dX4_mergeByLeast_21 (Nat.le_of_ble_eq_true rfl) ?_
  show G X _ 22 [_, _, _, _] _
  refine g_iconst C dX4_mergeByLeast_22 ?_
  refine g_istore_n C dX4_mergeByLeast_23 (Nat.le_of_ble_eq_true rfl) ?_
  show G X _ 24 [_, _, _, _] _
  exact lp 300 0 (mkK z.1.length fan) z M (by omega) (Nat.zero_le _) hk9 hv h1 h2 (mkK_D hf.1) rfl h zFp.refl
theorem gc_Plan_mergeByLeast {X : z_X} {cc : ByteArray} {own : String} {ret : Option FieldType} {dC nC : Nat} {M : zM} {pc : Nat} {lv : List (Option Value)} {st : List Value} (C : Cx cc own ret dC nC X) (hdep : 5 ≤ dC) {idx : Nat} (hl0 : Cond.methodLink own idx yX4_mergeByLeast ∈ tT) (hcat : (st.map fun v => v.category).sum ≤ 8) (hlen : lv.length = nC) (hdec : decode cc pc = .ok (.invokevirtual idx, 3)) {r : Nat} (hr : r < 2) (fan pg n : Nat) {rs : List Int} {z : zZ} (hpg : 1 ≤ pg ∧ pg ≤ 100) (hn : n ≤ 120) (hv : zV z.1 (n : Int)) (hf : 2 ≤ fan ∧ fan ≤ 11) (h1 : z.2.2.2.1.length + z.1.length ≤ 119) (h2 : z.2.2.2.2.length + z.1.length ≤ 119) (h : zPl M r (pg : Int) rs z) (kk : ∀ M' : zM, (zPl M' r (pg : Int) rs (leS (pg : Int) fan 120 (mkK z.1.length fan) z) ∧ zFp M M' r) → G X M' (pc + 3) lv st) : G X M pc lv (.int (jI ((fan : Int))) :: .ref (zA X (82 + r)) :: st) := by
  refine g_callV (k := 1) (o := 82 + r) C (c_Plan_mergeByLeast (zL X) hr fan pg n hpg hn hv hf h1 h2 M h) mfX4_mergeByLeast hl0 ⟨rfl, by decide +kernel, by decide +kernel, by decide +kernel⟩ ⟨hdep, by decide⟩ (by omega) (fun _ _ _ _ => ze_plan (by omega)) rfl rfl rfl rfl hcat hlen hdec (fun v M' h => ?_)
  obtain ⟨rfl, h⟩ := h
  exact kk M' h
set_option maxHeartbeats 4000000 in
set_option maxRecDepth 10000 in
theorem c_Plan_mergeLevel (l : Launch) {r : Nat} (hr : r < 2) (fan pg n : Nat) {rs L : List Int} {z0 : Int × Int × List Int × List Int} (hpg : 1 ≤ pg ∧ pg ≤ 100) (hn : n ≤ 120) (hv : zV L (n : Int)) (hf : 2 ≤ fan ∧ fan ≤ 11) (h1 : z0.2.2.1.length + L.length ≤ 119) (h2 : z0.2.2.2.length + L.length ≤ 119) (M : zM) (h : zPl M r (pg : Int) rs (L, z0)) : Mt l 3 yX4_mergeLevel cX4_mergeLevel 8 none (fun ad => [.ref (ad (82 + r)), .int (jI ((fan : Int)))]) M (fun _ vv M' => vv = none ∧ (zPl M' r (pg : Int) rs (mlS (pg : Int) fan L.length L ([], z0)) ∧ zFp M M' r)) := by
  refine Mt.of (fun ad => [some (.ref (ad (82 + r))), some (.int (jI ((fan : Int)))), none, none, none, none, none, none]) (by decide +kernel) (fun _ => rfl) (fun _ => rfl) (fun _ => Nat.le_of_ble_eq_true rfl) fun X hX C hR => ?_
  subst hX
  show G X M 0 [some (.ref ((zA X) (82 + r))), some (.int (jI ((fan : Int)))), none, none, none, none, none, none] []
  have lp : ∀ (fk : Nat) (a : Nat) (z : zZ) (Lc : List Int) (N : zM), L.length - a < fk → a ≤ 300 → z.1.length ≤ a → Lc.length = L.length → (∀ j, a ≤ j → nA Lc j = nA L j) → Lc.take z.1.length = z.1 → z.1.length ≤ L.length → mlS (pg : Int) fan (L.length - a) (L.drop a) z = mlS (pg : Int) fan L.length L ([], z0) → z.2.2.2.1.length + (L.length - a) ≤ 119 → z.2.2.2.2.length + (L.length - a) ≤ 119 → zPl N r (pg : Int) rs (Lc, z.2) → zFp M N r → G X N 13 [some (.ref (zA X (82 + r))), some (.int (jI (fan : Int))), some (.int (jI (L.length : Int))), some (.int (jI (z.1.length : Int))), some (.int (jI (a : Int))), none, none, none] [] := by
    intro fk
    induction fk with
    | zero => intro a z Lc N hk; exact absurd hk (Nat.not_lt_zero _)
    | succ fk ih =>
      intro a z Lc N hk i1 i2 i3 i4 i5 i6 i7 i8 i9 hN hF
      have hrl := h.2.1.2.1
      refine g_iload C dX4_mergeLevel_13 rfl ?_
      refine g_iload_n C dX4_mergeLevel_15 rfl ?_
      refine g_icmp_ge (tgt := 165) C dX4_mergeLevel_16 rfl (by omega) (by omega) (fun h16 => ?_) (fun h16 => ?_)
      · refine g_aload_n C dX4_mergeLevel_165 rfl ?_
        refine gf_Plan_row C (by omega) tw_70 dX4_mergeLevel_166 ?_
        refine g_iload_n C dX4_mergeLevel_169 rfl ?_
        refine gc_Num_cutTo C (by decide) tw_588 (Nat.le_of_ble_eq_true rfl) rfl dX4_mergeLevel_170 (by omega) (L := Lc) _ (by omega) hN.2.1 (fun N2 ⟨n1, n2⟩ => ?_)
        refine g_vret C hR dX4_mergeLevel_173 ?_
        refine ⟨rfl, ?_, hF.trans (zFp.num n2 (by omega) (by omega))⟩
        rw [← i7, List.drop_eq_nil_of_le (by omega), mlS_nil]
        have g := hN.row hr n1 n2
        rw [i5] at g
        exact g
      · have hsm := sm_in hv a (min (a + fan) L.length)
        have hb143 : ∀ (N2 : zM) (z2 : zZ) (y7 : Option Value), z2 = mlC (pg : Int) ((L.drop a).take fan) z → zPl N2 r (pg : Int) rs (Lc, z2.2) → zFp M N2 r → z2.2.2.2.1.length + (L.length - (a + fan)) ≤ 119 → z2.2.2.2.2.length + (L.length - (a + fan)) ≤ 119 → G X N2 143 [some (.ref (zA X (82 + r))), some (.int (jI (fan : Int))), some (.int (jI (L.length : Int))), some (.int (jI (z.1.length : Int))), some (.int (jI (a : Int))), some (.int (jI ((min (a + fan) L.length : Nat) : Int))), some (.int (jI (sm L a (min (a + fan) L.length)))), y7] [] := by
          intro N2 z2 y7 q0 q1 q2 q3 q4
          refine g_aload_n C dX4_mergeLevel_143 rfl ?_
          refine gf_Plan_row C (by omega) tw_70 dX4_mergeLevel_144 ?_
          refine g_iload_n C dX4_mergeLevel_147 rfl ?_
          refine g_iload C dX4_mergeLevel_148 rfl ?_
          refine gc_Num_set C (by decide) tw_584 (Nat.le_of_ble_eq_true rfl) rfl dX4_mergeLevel_150 (by omega) (L := Lc) _ _ (by omega) q1.2.1 (fun N3 ⟨n1, n2⟩ => ?_)
          refine g_iinc C dX4_mergeLevel_153 rfl ?_
          show G X _ 156 [_, _, _, _, _, _, _, _] _
          refine g_iload C dX4_mergeLevel_156 rfl ?_
          refine g_iload_n C dX4_mergeLevel_158 rfl ?_
          refine g_iadd C dX4_mergeLevel_159 ?_
          refine g_istore C dX4_mergeLevel_160 (Nat.le_of_ble_eq_true rfl) ?_
          show G X _ 162 [_, _, _, _, _, _, _, _] _
          refine g_goto (tgt := 13) C dX4_mergeLevel_162 rfl ?_
          show G X _ 13 _ _
          rw [show (a : Int) + (fan : Int) = ((a + fan : Nat) : Int) by omega]
          refine g_mask [true, true, true, true, true, false, false, false] rfl ?_
          show G X _ 13 [_, _, _, _, _, _, _, _] _
          have hz2 : z2.1 = z.1 ++ [sm L a (min (a + fan) L.length)] := by rw [q0, mlC_row, sm_take]
          have hz3 : z2.1.length = z.1.length + 1 := by rw [hz2]; simp
          rw [show (z.1.length : Int) + 1 = (z2.1.length : Int) by omega]
          refine ih (a + fan) z2 (Lc.set z.1.length (sm L a (min (a + fan) L.length))) N3 (by omega) (by omega) (by omega) (by rw [List.length_set]; exact i3) (fun j hj => by rw [nA_set (by omega)]; exact i4 j (by omega)) (by rw [hz3, set_take i5 (by omega), hz2]) (by omega) (by rw [← i7, mlS_next (a := a) (by omega) (by omega), q0]) q3 q4 (q1.row hr n1 n2) (q2.trans (zFp.num n2 (by omega) (by omega)))
        have lpB : ∀ (fb : Nat) (i : Nat) (N2 : zM), L.length - i < fb → 1 < min (a + fan) L.length - a → a ≤ i → i ≤ min (a + fan) L.length → zPl N2 r (pg : Int) rs (Lc, z.2.1 + sm (L.map (fun v => pgs v (pg : Int))) a i, z.2.2) → zFp M N2 r → G X N2 76 [some (.ref (zA X (82 + r))), some (.int (jI (fan : Int))), some (.int (jI (L.length : Int))), some (.int (jI (z.1.length : Int))), some (.int (jI (a : Int))), some (.int (jI ((min (a + fan) L.length : Nat) : Int))), some (.int (jI (sm L a (min (a + fan) L.length)))), some (.int (jI (i : Int)))] [] := by
          intro fb
          induction fb with
          | zero => intro i N2 hk; exact absurd hk (Nat.not_lt_zero _)
          | succ fb ihB =>
            intro i N2 hkB b0 b1 b2 g1 g2
            
            refine g_iload C dX4_mergeLevel_76 rfl ?_
            refine g_iload C dX4_mergeLevel_78 rfl ?_
            refine g_icmp_ge (tgt := 114) C dX4_mergeLevel_80 rfl (by omega) (by omega) (fun h80 => ?_) (fun h80 => ?_)
            · obtain rfl : i = min (a + fan) L.length := by omega
              refine g_aload_n C dX4_mergeLevel_114 rfl ?_
              refine g_dup C dX4_mergeLevel_115 rfl ?_
              refine gf_Plan_writtenPages C (by omega) tw_68 dX4_mergeLevel_116 ?_
              rw [show N2 (82 + r) 4 = z.2.2.1 from g1.2.2.2.1]
              refine g_iload C dX4_mergeLevel_119 rfl ?_
              refine g_aload_n C dX4_mergeLevel_121 rfl ?_
              refine gf_Plan_page C (by omega) tw_72 dX4_mergeLevel_122 ?_
              rw [g1.2.2.2.2.2.2]
              show G X _ 125 _ _
              refine gc_pagesForN C (by decide) (fun _ h => h.2) (Nat.le_of_ble_eq_true rfl) rfl dX4_mergeLevel_125 _ _ (by omega) (by omega) (?_)
              refine g_iadd C dX4_mergeLevel_128 ?_
              refine gp_Plan_writtenPages C (by omega) tw_68 dX4_mergeLevel_129 ?_
              have g4 : zPl (zu N2 (82 + r) 4 (z.2.2.1 + pgs (sm L a (min (a + fan) L.length)) (pg : Int))) r (pg : Int) rs (Lc, z.2.1 + sm (L.map (fun v => pgs v (pg : Int))) a (min (a + fan) L.length), z.2.2.1 + pgs (sm L a (min (a + fan) L.length)) (pg : Int), z.2.2.2) := g1.wr hr _
              refine g_aload_n C dX4_mergeLevel_132 rfl ?_
              refine g_iload C dX4_mergeLevel_133 rfl ?_
              refine g_iload C dX4_mergeLevel_135 rfl ?_
              show G X _ 137 _ _
              
              refine g_isub C dX4_mergeLevel_137 ?_
              refine g_iload C dX4_mergeLevel_138 rfl ?_
              rw [show ((min (a + fan) L.length : Nat) : Int) - (a : Int) = ((min (a + fan) L.length - a : Nat) : Int) by omega]
              refine gc_Plan_noteMerge C (by decide) tw_572 (Nat.le_of_ble_eq_true rfl) rfl dX4_mergeLevel_140 hr (pg := (pg : Int)) (rs := rs) (z := (Lc, z.2.1 + sm (L.map (fun v => pgs v (pg : Int))) a (min (a + fan) L.length), z.2.2.1 + pgs (sm L a (min (a + fan) L.length)) (pg : Int), z.2.2.2)) _ _ (by show z.2.2.2.1.length < 120; omega) (by show z.2.2.2.2.length < 120; omega) g4 (fun N5 ⟨n5, n6⟩ => ?_)
              refine hb143 N5 _ _ rfl ?_ ((g2.trans zFp.fld).trans n6) ?_ ?_
              · rw [mlC_at (by omega), if_pos (by omega)]; exact n5
              · rw [mlC_at (by omega), if_pos (by omega)]; show (z.2.2.2.1 ++ [_]).length + _ ≤ 119; rw [List.length_append]; simp; omega
              · rw [mlC_at (by omega), if_pos (by omega)]; show (z.2.2.2.2 ++ [_]).length + _ ≤ 119; rw [List.length_append]; simp; omega
            · refine g_aload_n C dX4_mergeLevel_83 rfl ?_
              refine g_dup C dX4_mergeLevel_84 rfl ?_
              refine gf_Plan_readPages C (by omega) tw_66 dX4_mergeLevel_85 ?_
              rw [show N2 (82 + r) 3 = _ from g1.2.2.1]
              refine g_aload_n C dX4_mergeLevel_88 rfl ?_
              refine gf_Plan_row C (by omega) tw_70 dX4_mergeLevel_89 ?_
              refine g_iload C dX4_mergeLevel_92 rfl ?_
              show G X _ 94 _ _
              refine gc_Num_valueAt C (by decide) tw_546 (Nat.le_of_ble_eq_true rfl) rfl dX4_mergeLevel_94 (by omega) (L := Lc) i (by omega) g1.2.1 (?_)
              rw [i4 i (by omega)]
              refine g_aload_n C dX4_mergeLevel_97 rfl ?_
              refine gf_Plan_page C (by omega) tw_72 dX4_mergeLevel_98 ?_
              rw [g1.2.2.2.2.2.2]
              refine gc_pagesForN C (by decide) (fun _ h => h.2) (Nat.le_of_ble_eq_true rfl) rfl dX4_mergeLevel_101 _ _ (by have := hv.at (by omega) i; omega) (by omega) (?_)
              refine g_iadd C dX4_mergeLevel_104 ?_
              refine gp_Plan_readPages C (by omega) tw_66 dX4_mergeLevel_105 ?_
              show G X _ 108 _ _
              refine g_iinc C dX4_mergeLevel_108 rfl ?_
              show G X _ 111 [_, _, _, _, _, _, _, _] _
              refine g_goto (tgt := 76) C dX4_mergeLevel_111 rfl ?_
              show G X _ 76 _ _
              refine ihB (i + 1) _ (by omega) b0 (by omega) (by omega) ?_ (g2.trans zFp.fld)
              have g3 := g1.rd hr (z.2.1 + sm (L.map (fun v => pgs v (pg : Int))) a i + pgs (nA L i) (pg : Int))
              rw [sm_map1 (by omega) (by omega), ← Int.add_assoc]
              exact g3
        have lpA : ∀ (fb : Nat) (i : Nat), L.length - i < fb → a ≤ i → i ≤ min (a + fan) L.length → G X N 36 [some (.ref (zA X (82 + r))), some (.int (jI (fan : Int))), some (.int (jI (L.length : Int))), some (.int (jI (z.1.length : Int))), some (.int (jI (a : Int))), some (.int (jI ((min (a + fan) L.length : Nat) : Int))), some (.int (jI (sm L a i))), some (.int (jI (i : Int)))] [] := by
          intro fb
          induction fb with
          | zero => intro i hk; exact absurd hk (Nat.not_lt_zero _)
          | succ fb ihA =>
            intro i hkA b1 b2
            refine g_iload C dX4_mergeLevel_36 rfl ?_
            refine g_iload C dX4_mergeLevel_38 rfl ?_
            refine g_icmp_ge (tgt := 63) C dX4_mergeLevel_40 rfl (by omega) (by omega) (fun h40 => ?_) (fun h40 => ?_)
            · obtain rfl : i = min (a + fan) L.length := by omega
              refine g_iload C dX4_mergeLevel_63 rfl ?_
              refine g_iload C dX4_mergeLevel_65 rfl ?_
              refine g_isub C dX4_mergeLevel_67 ?_
              refine g_iconst C dX4_mergeLevel_68 ?_
              rw [show ((min (a + fan) L.length : Nat) : Int) - (a : Int) = ((min (a + fan) L.length - a : Nat) : Int) by omega]
              refine g_icmp_le (tgt := 143) C dX4_mergeLevel_69 rfl (by omega) (by omega) (fun h69 => ?_) (fun h69 => ?_)
              · refine hb143 N _ _ rfl ?_ hF ?_ ?_
                · rw [mlC_at (by omega), if_neg (by omega)]; exact hN
                · rw [mlC_at (by omega), if_neg (by omega)]; show z.2.2.2.1.length + _ ≤ 119; omega
                · rw [mlC_at (by omega), if_neg (by omega)]; show z.2.2.2.2.length + _ ≤ 119; omega
              · refine g_iload C dX4_mergeLevel_72 rfl ?_
                refine g_istore C dX4_mergeLevel_74 (Nat.le_of_ble_eq_true rfl) ?_
                show G X _ 76 [_, _, _, _, _, _, _, _] _
                exact lpB 300 a N (by omega) (by omega) (Nat.le_refl _) (by omega) (by rw [sm_0, Int.add_zero]; exact hN) hF
            · refine g_iload C dX4_mergeLevel_43 rfl ?_
              refine g_aload_n C dX4_mergeLevel_45 rfl ?_
              refine gf_Plan_row C (by omega) tw_70 dX4_mergeLevel_46 ?_
              refine g_iload C dX4_mergeLevel_49 rfl ?_
              refine gc_Num_valueAt C (by decide) tw_546 (Nat.le_of_ble_eq_true rfl) rfl dX4_mergeLevel_51 (by omega) (L := Lc) i (by omega) hN.2.1 (?_)
              rw [i4 i (by omega)]
              refine g_iadd C dX4_mergeLevel_54 ?_
              show G X _ 55 _ _
              rw [← sm_1 (by omega) (by omega)]
              refine g_istore C dX4_mergeLevel_55 (Nat.le_of_ble_eq_true rfl) ?_
              show G X _ 57 [_, _, _, _, _, _, _, _] _
              refine g_iinc C dX4_mergeLevel_57 rfl ?_
              show G X _ 60 [_, _, _, _, _, _, _, _] _
              refine g_goto (tgt := 36) C dX4_mergeLevel_60 rfl ?_
              show G X _ 36 _ _
              exact ihA (i + 1) (by omega) (by omega) (by omega)
        refine g_iload C dX4_mergeLevel_19 rfl ?_
        refine g_iload_n C dX4_mergeLevel_21 rfl ?_
        refine g_iadd C dX4_mergeLevel_22 ?_
        refine g_iload_n C dX4_mergeLevel_23 rfl ?_
        refine gc_min C (by decide) tw_505 (Nat.le_of_ble_eq_true rfl) rfl dX4_mergeLevel_24 _ _ (by omega) (by omega) (?_)
        rw [show (if (a : Int) + (fan : Int) ≤ (L.length : Int) then (a : Int) + (fan : Int) else (L.length : Int)) = ((min (a + fan) L.length : Nat) : Int) by by_cases q : (a : Int) + (fan : Int) ≤ (L.length : Int) <;> simp [q] <;> omega]
        refine g_istore C dX4_mergeLevel_27 (Nat.le_of_ble_eq_true rfl) ?_
        show G X _ 29 [_, _, _, _, _, _, _, _] _
        refine g_iconst C dX4_mergeLevel_29 ?_
        refine g_istore C dX4_mergeLevel_30 (Nat.le_of_ble_eq_true rfl) ?_
        show G X _ 32 [_, _, _, _, _, _, _, _] _
        refine g_iload C dX4_mergeLevel_32 rfl ?_
        refine g_istore C dX4_mergeLevel_34 (Nat.le_of_ble_eq_true rfl) ?_
        show G X _ 36 [_, _, _, _, _, _, _, _] _
        rw [show (0 : Int) = sm L a a from sm_0.symm]
        exact lpA 300 a (by omega) (Nat.le_refl _) (by omega)
  refine g_aload_n C dX4_mergeLevel_0 rfl ?_
  refine gf_Plan_row C (by omega) tw_70 dX4_mergeLevel_1 ?_
  refine gc_Num_count C (by decide) tw_542 (Nat.le_of_ble_eq_true rfl) rfl dX4_mergeLevel_4 (by omega) h.2.1 (?_)
  refine g_istore_n C dX4_mergeLevel_7 (Nat.le_of_ble_eq_true rfl) ?_
  show G X _ 8 [_, _, _, _, _, _, _, _] _
  refine g_iconst C dX4_mergeLevel_8 ?_
  refine g_istore_n C dX4_mergeLevel_9 (Nat.le_of_ble_eq_true rfl) ?_
  show G X _ 10 [_, _, _, _, _, _, _, _] _
  refine g_iconst C dX4_mergeLevel_10 ?_
  refine g_istore C dX4_mergeLevel_11 (Nat.le_of_ble_eq_true rfl) ?_
  show G X _ 13 [_, _, _, _, _, _, _, _] _
  exact lp 300 0 ([], z0) L M (by have := h.2.1.2.1; show L.length - 0 < 300; simp at this; omega) (by omega) (Nat.le_refl _) rfl (fun _ _ => rfl) rfl (Nat.zero_le _) rfl (by show z0.2.2.1.length + (L.length - 0) ≤ 119; omega) (by show z0.2.2.2.length + (L.length - 0) ≤ 119; omega) h zFp.refl
theorem gc_Plan_mergeLevel {X : z_X} {cc : ByteArray} {own : String} {ret : Option FieldType} {dC nC : Nat} {M : zM} {pc : Nat} {lv : List (Option Value)} {st : List Value} (C : Cx cc own ret dC nC X) (hdep : 4 ≤ dC) {idx : Nat} (hl0 : Cond.methodLink own idx yX4_mergeLevel ∈ tT) (hcat : (st.map fun v => v.category).sum ≤ 8) (hlen : lv.length = nC) (hdec : decode cc pc = .ok (.invokevirtual idx, 3)) {r : Nat} (hr : r < 2) (fan pg n : Nat) {rs L : List Int} {z0 : Int × Int × List Int × List Int} (hpg : 1 ≤ pg ∧ pg ≤ 100) (hn : n ≤ 120) (hv : zV L (n : Int)) (hf : 2 ≤ fan ∧ fan ≤ 11) (h1 : z0.2.2.1.length + L.length ≤ 119) (h2 : z0.2.2.2.length + L.length ≤ 119) (h : zPl M r (pg : Int) rs (L, z0)) (kk : ∀ M' : zM, (zPl M' r (pg : Int) rs (mlS (pg : Int) fan L.length L ([], z0)) ∧ zFp M M' r) → G X M' (pc + 3) lv st) : G X M pc lv (.int (jI ((fan : Int))) :: .ref (zA X (82 + r)) :: st) := by
  refine g_callV (k := 1) (o := 82 + r) C (c_Plan_mergeLevel (zL X) hr fan pg n hpg hn hv hf h1 h2 M h) mfX4_mergeLevel hl0 ⟨rfl, by decide +kernel, by decide +kernel, by decide +kernel⟩ ⟨hdep, by decide⟩ (by omega) (fun _ _ _ _ => ze_plan (by omega)) rfl rfl rfl rfl hcat hlen hdec (fun v M' h => ?_)
  obtain ⟨rfl, h⟩ := h
  exact kk M' h
set_option maxHeartbeats 4000000 in
set_option maxRecDepth 10000 in
theorem c_Plan_mergeByLevels (l : Launch) {r : Nat} (hr : r < 2) (fan pg n : Nat) {rs : List Int} {z : zZ} (hpg : 1 ≤ pg ∧ pg ≤ 100) (hn : n ≤ 120) (hv : zV z.1 (n : Int)) (hf : 2 ≤ fan ∧ fan ≤ 11) (h1 : z.2.2.2.1.length + z.1.length ≤ 119) (h2 : z.2.2.2.2.length + z.1.length ≤ 119) (M : zM) (h : zPl M r (pg : Int) rs z) : Mt l 4 yX4_mergeByLevels cX4_mergeByLevels 3 none (fun ad => [.ref (ad (82 + r)), .int (jI ((fan : Int)))]) M (fun _ vv M' => vv = none ∧ (zPl M' r (pg : Int) rs (lvS (pg : Int) fan 120 z) ∧ zFp M M' r)) := by
  refine Mt.of (fun ad => [some (.ref (ad (82 + r))), some (.int (jI ((fan : Int)))), none]) (by decide +kernel) (fun _ => rfl) (fun _ => rfl) (fun _ => Nat.le_of_ble_eq_true rfl) fun X hX C hR => ?_
  subst hX
  show G X M 0 [some (.ref ((zA X) (82 + r))), some (.int (jI ((fan : Int)))), none] []
  have lp : ∀ (fk : Nat) (t : Nat) (w : zZ) (N : zM), 120 - t < fk → t ≤ 120 → zV w.1 (n : Int) → w.2.2.2.1.length + w.1.length ≤ 119 → w.2.2.2.2.length + w.1.length ≤ 119 → lvS (pg : Int) fan (120 - t) w = lvS (pg : Int) fan 120 z → zPl N r (pg : Int) rs w → zFp M N r → G X N 2 [some (.ref (zA X (82 + r))), some (.int (jI (fan : Int))), some (.int (jI (t : Int)))] [] := by
    intro fk
    induction fk with
    | zero => intro t w N hk; exact absurd hk (Nat.not_lt_zero _)
    | succ fk ih =>
      intro t w N hk t1 t3 t4 t5 t7 hN hF
      have hrl := hN.2.1.2.1
      refine g_iload_n C dX4_mergeByLevels_2 rfl ?_
      refine g_bipush C dX4_mergeByLevels_3 rfl ?_
      refine g_icmp_ge (tgt := 34) C dX4_mergeByLevels_5 rfl (by omega) (by omega) (fun h5 => ?_) (fun h5 => ?_)
      · refine g_vret C hR dX4_mergeByLevels_34 ?_
        refine ⟨rfl, ?_, hF⟩
        have e : lvS (pg : Int) fan (120 - t) w = w := by
          rcases Nat.eq_zero_or_pos (120 - t) with q | q
          · rw [q, lvS]
          · rw [show 120 - t = (120 - t - 1) + 1 by omega, lvS, if_pos (by omega)]
        rw [← t7, e]
        exact hN
      · refine g_aload_n C dX4_mergeByLevels_8 rfl ?_
        refine gf_Plan_row C (by omega) tw_70 dX4_mergeByLevels_9 ?_
        refine gc_Num_count C (by decide) tw_542 (Nat.le_of_ble_eq_true rfl) rfl dX4_mergeByLevels_12 (by omega) hN.2.1 (?_)
        refine g_iconst C dX4_mergeByLevels_15 ?_
        refine g_icmp_le (tgt := 34) C dX4_mergeByLevels_16 rfl (by omega) (by omega) (fun h16 => ?_) (fun h16 => ?_)
        · refine g_vret C hR dX4_mergeByLevels_34 ?_
          refine ⟨rfl, ?_, hF⟩
          have e : lvS (pg : Int) fan (120 - t) w = w := by
            rcases Nat.eq_zero_or_pos (120 - t) with q | q
            · rw [q, lvS]
            · rw [show 120 - t = (120 - t - 1) + 1 by omega, lvS, if_pos (by omega)]
          rw [← t7, e]
          exact hN
        · refine g_aload_n C dX4_mergeByLevels_19 rfl ?_
          refine g_iconst C dX4_mergeByLevels_20 ?_
          refine g_iload_n C dX4_mergeByLevels_21 rfl ?_
          refine gc_max C (by decide) tw_532 (Nat.le_of_ble_eq_true rfl) rfl dX4_mergeByLevels_22 _ _ (by omega) (by omega) (?_)
          rw [show (if (fan : Int) ≤ 2 then (2 : Int) else (fan : Int)) = (fan : Int) by by_cases q : (fan : Int) ≤ 2 <;> simp [q] <;> omega]
          refine gc_Plan_mergeLevel C (by decide) tw_580 (Nat.le_of_ble_eq_true rfl) rfl dX4_mergeByLevels_25 hr (L := w.1) (z0 := w.2) fan pg n hpg hn t3 hf t4 t5 hN (fun N2 ⟨n1, n2⟩ => ?_)
          refine g_iinc C dX4_mergeByLevels_28 rfl ?_
          show G X _ 31 [_, _, _] _
          refine g_goto (tgt := 2) C dX4_mergeByLevels_31 rfl ?_
          show G X _ 2 _ _
          have g1 := mlS_keep (pg : Int) fan (by omega) w.1.length w.1 ([], w.2) (Nat.le_refl _) t3.1 (by simp)
          have g2 := mlS_keep2 (pg : Int) fan (by omega) w.1.length w.1 ([], w.2) (Nat.le_refl _)
          refine ih (t + 1) _ N2 (by omega) (by omega) ⟨g1.1, by rw [g1.2.1]; simpa using t3.2⟩ ?_ ?_ (by rw [← t7, show 120 - t = (120 - (t + 1)) + 1 by omega, lvS, if_neg (by omega)]) n1 (hF.trans n2)
          · have := g1.2.2.2.1
            simp at this
            omega
          · have := g2
            simp at this
            omega
  refine g_iconst C dX4_mergeByLevels_0 ?_
  refine g_istore_n C dX4_mergeByLevels_1 (Nat.le_of_ble_eq_true rfl) ?_
  show G X _ 2 [_, _, _] _
  exact lp 300 0 z M (by omega) (Nat.zero_le _) hv h1 h2 rfl h zFp.refl
theorem gc_Plan_mergeByLevels {X : z_X} {cc : ByteArray} {own : String} {ret : Option FieldType} {dC nC : Nat} {M : zM} {pc : Nat} {lv : List (Option Value)} {st : List Value} (C : Cx cc own ret dC nC X) (hdep : 5 ≤ dC) {idx : Nat} (hl0 : Cond.methodLink own idx yX4_mergeByLevels ∈ tT) (hcat : (st.map fun v => v.category).sum ≤ 8) (hlen : lv.length = nC) (hdec : decode cc pc = .ok (.invokevirtual idx, 3)) {r : Nat} (hr : r < 2) (fan pg n : Nat) {rs : List Int} {z : zZ} (hpg : 1 ≤ pg ∧ pg ≤ 100) (hn : n ≤ 120) (hv : zV z.1 (n : Int)) (hf : 2 ≤ fan ∧ fan ≤ 11) (h1 : z.2.2.2.1.length + z.1.length ≤ 119) (h2 : z.2.2.2.2.length + z.1.length ≤ 119) (h : zPl M r (pg : Int) rs z) (kk : ∀ M' : zM, (zPl M' r (pg : Int) rs (lvS (pg : Int) fan 120 z) ∧ zFp M M' r) → G X M' (pc + 3) lv st) : G X M pc lv (.int (jI ((fan : Int))) :: .ref (zA X (82 + r)) :: st) := by
  refine g_callV (k := 1) (o := 82 + r) C (c_Plan_mergeByLevels (zL X) hr fan pg n hpg hn hv hf h1 h2 M h) mfX4_mergeByLevels hl0 ⟨rfl, by decide +kernel, by decide +kernel, by decide +kernel⟩ ⟨hdep, by decide⟩ (by omega) (fun _ _ _ _ => ze_plan (by omega)) rfl rfl rfl rfl hcat hlen hdec (fun v M' h => ?_)
  obtain ⟨rfl, h⟩ := h
  exact kk M' h
set_option maxHeartbeats 4000000 in
set_option maxRecDepth 10000 in
theorem c_Plan_runByReplacing (l : Launch) {r : Nat} (hr : r < 2) {q : Nat} (hq : q < 20) {L : List (Int × Int)} (room : Nat) (hrm : 1 ≤ room ∧ room ≤ 10000) (hb : zIn L) (hn : L.length ≤ 100) (M : zM) (hL : zRow M q L) (h : zNum M (4 * r) []) : Mt l 4 yX4_runByReplacing cX4_runByReplacing 12 none (fun ad => [.ref (ad (82 + r)), .ref (ad (3 * q)), .int (jI (0)), .int (jI ((room : Int)))]) M (fun _ vv M' => vv = none ∧ (zNum M' (4 * r) (rpR L room) ∧ ∀ o, o ≠ 60 + 2 * (4 * r) → o ≠ 61 + 2 * (4 * r) → o ≠ 76 + 2 * r → o ≠ 77 + 2 * r → M' o = M o)) := by
  refine Mt.of (fun ad => [some (.ref (ad (82 + r))), some (.ref (ad (3 * q))), some (.int (jI (0))), some (.int (jI ((room : Int)))), none, none, none, none, none, none, none, none]) (by decide +kernel) (fun _ => rfl) (fun _ => rfl) (fun _ => Nat.le_of_ble_eq_true rfl) fun X hX C hR => ?_
  subst hX
  show G X M 0 [some (.ref ((zA X) (82 + r))), some (.ref ((zA X) (3 * q))), some (.int (jI (0))), some (.int (jI ((room : Int)))), none, none, none, none, none, none, none, none] []
  have lp2 : ∀ (fk : Nat) (g : Nat) (s : zR) (N : zM), 200 - g < fk → g ≤ L.length → rpJ L room g s → rpS L (L.length - g) s = rpR L room → zHp N r s.1 → zNum N (4 * r) s.2.2.2.2 → (∀ o, o ≠ 60 + 2 * (4 * r) → o ≠ 61 + 2 * (4 * r) → o ≠ 76 + 2 * r → o ≠ 77 + 2 * r → N o = M o) → G X N 60 [some (.ref (zA X (82 + r))), some (.ref (zA X (3 * q))), some (.int (jI 0)), some (.int (jI (room : Int))), some (.int (jI (L.length : Int))), some (.int (jI (s.2.2.2.1 : Int))), some (.int (jI s.2.1)), some (.int (jI s.2.2.1)), some (.int (jI (g : Int))), none, none, none] [] := by
    intro fk
    induction fk with
    | zero => intro g s N hk; exact absurd hk (Nat.not_lt_zero _)
    | succ fk ih =>
      intro g s N hk i1 hJ hS hH hN hF
      obtain ⟨S1, run0, size0, filled, acc0⟩ := s
      dsimp only at hH hN ⊢
      refine g_iload C dX4_runByReplacing_60 rfl ?_
      refine g_iload C dX4_runByReplacing_62 rfl ?_
      refine g_icmp_ge (tgt := 173) C dX4_runByReplacing_64 rfl (by omega) (by omega) (fun h64 => ?_) (fun h64 => ?_)
      · have hg : g = L.length := by omega
        have js := hJ.2.2.2.2.2.1
        have jq := len_le_sum (L := acc0) (fun v hv => by have := hJ.2.2.2.2.1 v hv; omega)
        have j9 := hJ.2.2.2.2.2.2.2.2
        have jz := sum_nn (L := acc0) (fun v hv => by have := hJ.2.2.2.2.1 v hv; omega)
        dsimp only at js j9
        refine g_iload C dX4_runByReplacing_173 rfl ?_
        refine g_if_le (tgt := 187) C dX4_runByReplacing_175 rfl (by omega) (fun h175 => ?_) (fun h175 => ?_)
        · refine g_vret C hR dX4_runByReplacing_187 ?_
          refine ⟨rfl, ?_, hF⟩
          rw [← hS, hg, Nat.sub_self, rpS, if_neg (by show ¬ 0 < size0; omega)]
          exact hN
        · refine g_aload_n C dX4_runByReplacing_178 rfl ?_
          refine gf_Plan_runSizes C (by omega) tw_60 dX4_runByReplacing_179 ?_
          refine g_iload C dX4_runByReplacing_182 rfl ?_
          refine gc_Num_add C (by decide) tw_524 (Nat.le_of_ble_eq_true rfl) rfl dX4_runByReplacing_184 (by omega) _ (by omega) hN (fun N3 ⟨n3, n4⟩ => ?_)
          refine g_vret C hR dX4_runByReplacing_187 ?_
          refine ⟨rfl, ?_, fun o a b c d => (n4 o a b).trans (hF o a b c d)⟩
          rw [← hS, hg, Nat.sub_self, rpS, if_pos (by show 0 < size0; omega)]
          exact n3
      · have hg : g < L.length := by omega
        obtain ⟨a0, S0, e0⟩ : ∃ a0 S0, S1 = a0 :: S0 := by
          cases S1 with
          | nil => exfalso; have := hJ.1; have := hJ.2.1; simp at *; omega
          | cons a0 S0 => exact ⟨a0, S0, rfl⟩
        subst e0
        have ja := hJ.2.2.1 a0 List.mem_cons_self
        have jl := hJ.2.2.2.1
        have js := hJ.2.2.2.2.2.1
        have jf := hJ.2.1
        have jh := hJ.1
        have jz := sum_nn (L := acc0) (fun v hv => by have := hJ.2.2.2.2.1 v hv; omega)
        have jq := len_le_sum (L := acc0) (fun v hv => by have := hJ.2.2.2.2.1 v hv; omega)
        have j9 := hJ.2.2.2.2.2.2.2.2
        dsimp only at ja jl js jf jh j9
        rw [List.length_cons] at jh
        have hdone : ∀ (s2 : zR) (N : zM), rpT L (a0 :: S0, run0, size0, filled, acc0) = s2 → rpT L (a0 :: S0, run0, size0, filled, acc0) = rpT L (a0 :: S0, run0, size0, filled, acc0) → zHp N r s2.1 → zNum N (4 * r) s2.2.2.2.2 → (∀ o, o ≠ 60 + 2 * (4 * r) → o ≠ 61 + 2 * (4 * r) → o ≠ 76 + 2 * r → o ≠ 77 + 2 * r → N o = M o) → G X N 60 [some (.ref (zA X (82 + r))), some (.ref (zA X (3 * q))), some (.int (jI 0)), some (.int (jI (room : Int))), some (.int (jI (L.length : Int))), some (.int (jI (s2.2.2.2.1 : Int))), some (.int (jI s2.2.1)), some (.int (jI s2.2.2.1)), some (.int (jI ((g : Int) + 1))), none, none, none] [] := by
          intro s2 N e1 _ k1 k2 k3
          exact ih (g + 1) s2 N (by omega) (by omega) (by rw [← e1]; exact rpJ_1 hrm.1 hb (by omega) (by omega) hJ) (by rw [← e1, ← hS, show L.length - g = (L.length - (g + 1)) + 1 by omega, rpS]) k1 k2 k3
        have hb101 : ∀ (run size : Int) (acc : List Int) (N : zM), (0 ≤ run ∧ run ≤ 200) → (0 ≤ size ∧ size ≤ 200) → rpT L (a0 :: S0, run0, size0, filled, acc0) = (if filled < L.length then (insS ((if wt L filled < a0 % 239880 then run + 1 else run) * 239880 + wt L filled) S0, run, size + 1, filled + 1, acc) else (S0, run, size + 1, filled, acc)) → zHp N r S0 → zNum N (4 * r) acc → (∀ o, o ≠ 60 + 2 * (4 * r) → o ≠ 61 + 2 * (4 * r) → o ≠ 76 + 2 * r → o ≠ 77 + 2 * r → N o = M o) → G X N 101 [some (.ref (zA X (82 + r))), some (.ref (zA X (3 * q))), some (.int (jI 0)), some (.int (jI (room : Int))), some (.int (jI (L.length : Int))), some (.int (jI (filled : Int))), some (.int (jI run)), some (.int (jI size)), some (.int (jI (g : Int))), some (.int (jI a0)), none, none] [] := by
          intro run size acc N u1 u2 hrp hH hN hF
          have hRow : zRow N q L := hL.keep (hF _ (by omega) (by omega) (by omega) (by omega)) (hF _ (by omega) (by omega) (by omega) (by omega)) (hF _ (by omega) (by omega) (by omega) (by omega))
          refine g_iinc C dX4_runByReplacing_101 rfl ?_
          show G X _ 104 [_, _, _, _, _, _, _, _, _, _, _, _] _
          refine g_iload C dX4_runByReplacing_104 rfl ?_
          refine g_iload C dX4_runByReplacing_106 rfl ?_
          refine g_icmp_ge (tgt := 167) C dX4_runByReplacing_108 rfl (by omega) (by omega) (fun h108 => ?_) (fun h108 => ?_)
          · refine g_iinc C dX4_runByReplacing_167 rfl ?_
            show G X _ 170 [_, _, _, _, _, _, _, _, _, _, _, _] _
            refine g_goto (tgt := 60) C dX4_runByReplacing_170 rfl ?_
            show G X _ 60 _ _
            refine g_mask [true, true, true, true, true, true, true, true, true, false, false, false] rfl ?_
            show G X _ 60 [_, _, _, _, _, _, _, _, _, _, _, _] _
            rw [if_neg (by omega)] at hrp
            exact hdone _ N hrp rfl hH hN hF
          · refine g_aload_n C dX4_runByReplacing_111 rfl ?_
            refine g_iload C dX4_runByReplacing_112 rfl ?_
            refine g_iload_n C dX4_runByReplacing_114 rfl ?_
            refine gc_weightOfN C (by decide) (fun _ h => h.1) (Nat.le_of_ble_eq_true rfl) rfl dX4_runByReplacing_115 hq filled (by omega) hRow hb (?_)
            have hw := wt_in hb (show filled < 120 by omega)
            rw [show (kA L filled + 999) * 120 + (filled : Int) = wt L filled from rfl]
            refine g_istore C dX4_runByReplacing_118 (Nat.le_of_ble_eq_true rfl) ?_
            show G X _ 120 [_, _, _, _, _, _, _, _, _, _, _, _] _
            refine g_iload C dX4_runByReplacing_120 rfl ?_
            refine g_iload C dX4_runByReplacing_122 rfl ?_
            refine g_ldc C tw_523 dX4_runByReplacing_124 ?_
            show G X _ _ _ (.int (jI 239880) :: _)
            refine g_irem C dX4_runByReplacing_126 (by omega) (by omega) ?_
            have hm1 := Int.emod_nonneg a0 (show (239880 : Int) ≠ 0 by omega)
            have hm2 := Int.emod_lt_of_pos a0 (show (0 : Int) < 239880 by omega)
            refine g_icmp_ge (tgt := 134) C dX4_runByReplacing_127 rfl (by omega) (by omega) (fun h127 => ?_) (fun h127 => ?_)
            · refine g_iconst C dX4_runByReplacing_134 ?_
              refine g_istore C dX4_runByReplacing_135 (Nat.le_of_ble_eq_true rfl) ?_
              show G X _ 137 [_, _, _, _, _, _, _, _, _, _, _, _] _
              refine g_aload_n C dX4_runByReplacing_137 rfl ?_
              refine gf_Plan_heap C (by omega) tw_71 dX4_runByReplacing_138 ?_
              refine g_iload C dX4_runByReplacing_141 rfl ?_
              refine g_if_eq (tgt := 153) C dX4_runByReplacing_143 rfl (by omega) (fun h143 => ?_) (fun h143 => ?_)
              · refine g_iload C dX4_runByReplacing_153 rfl ?_
                refine g_ldc C tw_523 dX4_runByReplacing_155 ?_
                show G X _ _ _ (.int (jI 239880) :: _)
                refine g_imul C dX4_runByReplacing_157 ?_
                refine g_iload C dX4_runByReplacing_158 rfl ?_
                refine g_iadd C dX4_runByReplacing_160 ?_
                refine gc_Heap_push C (by decide) tw_511 (Nat.le_of_ble_eq_true rfl) rfl dX4_runByReplacing_161 (by omega) _ (by omega) (by omega) hH (fun N3 ⟨n1, n2⟩ => ?_)
                show G X _ 164 _ _
                refine g_iinc C dX4_runByReplacing_164 rfl ?_
                show G X _ 167 [_, _, _, _, _, _, _, _, _, _, _, _] _
                refine g_iinc C dX4_runByReplacing_167 rfl ?_
                show G X _ 170 [_, _, _, _, _, _, _, _, _, _, _, _] _
                refine g_goto (tgt := 60) C dX4_runByReplacing_170 rfl ?_
                show G X _ 60 _ _
                refine g_mask [true, true, true, true, true, true, true, true, true, false, false, false] rfl ?_
                show G X _ 60 [_, _, _, _, _, _, _, _, _, _, _, _] _
                rw [if_pos (by omega), if_neg (by omega)] at hrp
                exact hdone _ N3 hrp rfl n1 (hN.keep (n2 _ (by omega) (by omega)) (n2 _ (by omega) (by omega))) (fun o a b c d => (n2 o c d).trans (hF o a b c d))
              · omega
            · refine g_iconst C dX4_runByReplacing_130 ?_
              refine g_goto (tgt := 135) C dX4_runByReplacing_131 rfl ?_
              show G X _ 135 _ _
              refine g_istore C dX4_runByReplacing_135 (Nat.le_of_ble_eq_true rfl) ?_
              show G X _ 137 [_, _, _, _, _, _, _, _, _, _, _, _] _
              refine g_aload_n C dX4_runByReplacing_137 rfl ?_
              refine gf_Plan_heap C (by omega) tw_71 dX4_runByReplacing_138 ?_
              refine g_iload C dX4_runByReplacing_141 rfl ?_
              refine g_if_eq (tgt := 153) C dX4_runByReplacing_143 rfl (by omega) (fun h143 => ?_) (fun h143 => ?_)
              · omega
              · refine g_iload C dX4_runByReplacing_146 rfl ?_
                refine g_iconst C dX4_runByReplacing_148 ?_
                refine g_iadd C dX4_runByReplacing_149 ?_
                refine g_goto (tgt := 155) C dX4_runByReplacing_150 rfl ?_
                show G X _ 155 _ _
                refine g_ldc C tw_523 dX4_runByReplacing_155 ?_
                show G X _ _ _ (.int (jI 239880) :: _)
                refine g_imul C dX4_runByReplacing_157 ?_
                refine g_iload C dX4_runByReplacing_158 rfl ?_
                refine g_iadd C dX4_runByReplacing_160 ?_
                refine gc_Heap_push C (by decide) tw_511 (Nat.le_of_ble_eq_true rfl) rfl dX4_runByReplacing_161 (by omega) _ (by omega) (by omega) hH (fun N3 ⟨n1, n2⟩ => ?_)
                refine g_iinc C dX4_runByReplacing_164 rfl ?_
                show G X _ 167 [_, _, _, _, _, _, _, _, _, _, _, _] _
                refine g_iinc C dX4_runByReplacing_167 rfl ?_
                show G X _ 170 [_, _, _, _, _, _, _, _, _, _, _, _] _
                refine g_goto (tgt := 60) C dX4_runByReplacing_170 rfl ?_
                show G X _ 60 _ _
                refine g_mask [true, true, true, true, true, true, true, true, true, false, false, false] rfl ?_
                show G X _ 60 [_, _, _, _, _, _, _, _, _, _, _, _] _
                rw [if_pos (by omega), if_pos (by omega)] at hrp
                exact hdone _ N3 hrp rfl n1 (hN.keep (n2 _ (by omega) (by omega)) (n2 _ (by omega) (by omega))) (fun o a b c d => (n2 o c d).trans (hF o a b c d))
        refine g_aload_n C dX4_runByReplacing_67 rfl ?_
        refine gf_Plan_heap C (by omega) tw_71 dX4_runByReplacing_68 ?_
        refine gc_Heap_pull C (by decide) tw_515 (Nat.le_of_ble_eq_true rfl) rfl dX4_runByReplacing_71 (by omega) hH (fun x N2 ⟨n0, n1, n2⟩ => ?_)
        rw [n0]
        have hN2 : zNum N2 (4 * r) acc0 := hN.keep (n2 _ (by omega) (by omega)) (n2 _ (by omega) (by omega))
        have hF2 : ∀ o, o ≠ 60 + 2 * (4 * r) → o ≠ 61 + 2 * (4 * r) → o ≠ 76 + 2 * r → o ≠ 77 + 2 * r → N2 o = M o := fun o a b c d => (n2 o c d).trans (hF o a b c d)
        refine g_istore C dX4_runByReplacing_74 (Nat.le_of_ble_eq_true rfl) ?_
        show G X _ 76 [_, _, _, _, _, _, _, _, _, _, _, _] _
        refine g_iload C dX4_runByReplacing_76 rfl ?_
        refine g_ldc C tw_523 dX4_runByReplacing_78 ?_
        show G X _ _ _ (.int (jI 239880) :: _)
        refine g_idiv C dX4_runByReplacing_80 (by omega) (by omega) ?_
        refine g_iload C dX4_runByReplacing_81 rfl ?_
        refine g_icmp_le (tgt := 101) C dX4_runByReplacing_83 rfl (by omega) (by omega) (fun h83 => ?_) (fun h83 => ?_)
        · refine g_mask [true, true, true, true, true, true, true, true, true, true, false, false] rfl ?_
          show G X _ 101 [_, _, _, _, _, _, _, _, _, _, _, _] _
          refine hb101 run0 size0 acc0 N2 (by omega) (by omega) ?_ n1 hN2 hF2
          have hs : ¬ run0 < a0 / 239880 := by omega
          simp only [rpT, if_neg hs]
        · refine g_aload_n C dX4_runByReplacing_86 rfl ?_
          refine gf_Plan_runSizes C (by omega) tw_60 dX4_runByReplacing_87 ?_
          refine g_iload C dX4_runByReplacing_90 rfl ?_
          refine gc_Num_add C (by decide) tw_524 (Nat.le_of_ble_eq_true rfl) rfl dX4_runByReplacing_92 (by omega) _ (by omega) hN2 (fun N3 ⟨n3, n4⟩ => ?_)
          refine g_iinc C dX4_runByReplacing_95 rfl ?_
          show G X _ 98 [_, _, _, _, _, _, _, _, _, _, _, _] _
          refine g_iconst C dX4_runByReplacing_98 ?_
          refine g_istore C dX4_runByReplacing_99 (Nat.le_of_ble_eq_true rfl) ?_
          show G X _ 101 [_, _, _, _, _, _, _, _, _, _, _, _] _
          refine g_mask [true, true, true, true, true, true, true, true, true, true, false, false] rfl ?_
          show G X _ 101 [_, _, _, _, _, _, _, _, _, _, _, _] _
          refine hb101 (run0 + 1) 0 (acc0 ++ [size0]) N3 (by omega) (by omega) ?_ (n1.keep (n4 _ (by omega) (by omega)) (n4 _ (by omega) (by omega))) n3 (fun o a b c d => (n4 o a b).trans (hF2 o a b c d))
          have hs : run0 < a0 / 239880 := by omega
          simp only [rpT, if_pos hs]
  have hb51 : ∀ (y6 : Option Value) (N : zM), zHp N r (ini L (min room L.length)) → zNum N (4 * r) [] → (∀ o, o ≠ 60 + 2 * (4 * r) → o ≠ 61 + 2 * (4 * r) → o ≠ 76 + 2 * r → o ≠ 77 + 2 * r → N o = M o) → G X N 51 [some (.ref (zA X (82 + r))), some (.ref (zA X (3 * q))), some (.int (jI 0)), some (.int (jI (room : Int))), some (.int (jI (L.length : Int))), some (.int (jI ((min room L.length : Nat) : Int))), y6, none, none, none, none, none] [] := by
    intro y6 N hH hN hF
    refine g_iconst C dX4_runByReplacing_51 ?_
    refine g_istore C dX4_runByReplacing_52 (Nat.le_of_ble_eq_true rfl) ?_
    show G X _ 54 [_, _, _, _, _, _, _, _, _, _, _, _] _
    refine g_iconst C dX4_runByReplacing_54 ?_
    refine g_istore C dX4_runByReplacing_55 (Nat.le_of_ble_eq_true rfl) ?_
    show G X _ 57 [_, _, _, _, _, _, _, _, _, _, _, _] _
    refine g_iconst C dX4_runByReplacing_57 ?_
    refine g_istore C dX4_runByReplacing_58 (Nat.le_of_ble_eq_true rfl) ?_
    show G X _ 60 [_, _, _, _, _, _, _, _, _, _, _, _] _
    exact lp2 300 0 (ini L (min room L.length), 0, 0, min room L.length, []) N (by omega) (Nat.zero_le _) (rpJ_0 hb (by omega)) rfl hH hN hF
  have lp1 : ∀ (fk : Nat) (i : Nat) (N : zM), 200 - i < fk → i ≤ min room L.length → zHp N r (ini L i) → zNum N (4 * r) [] → (∀ o, o ≠ 60 + 2 * (4 * r) → o ≠ 61 + 2 * (4 * r) → o ≠ 76 + 2 * r → o ≠ 77 + 2 * r → N o = M o) → G X N 24 [some (.ref (zA X (82 + r))), some (.ref (zA X (3 * q))), some (.int (jI 0)), some (.int (jI (room : Int))), some (.int (jI (L.length : Int))), some (.int (jI ((min room L.length : Nat) : Int))), some (.int (jI (i : Int))), none, none, none, none, none] [] := by
    intro fk
    induction fk with
    | zero => intro i N hk; exact absurd hk (Nat.not_lt_zero _)
    | succ fk ih =>
      intro i N hk i1 hH hN hF
      have hRow : zRow N q L := hL.keep (hF _ (by omega) (by omega) (by omega) (by omega)) (hF _ (by omega) (by omega) (by omega) (by omega)) (hF _ (by omega) (by omega) (by omega) (by omega))
      refine g_iload C dX4_runByReplacing_24 rfl ?_
      refine g_iload C dX4_runByReplacing_26 rfl ?_
      refine g_icmp_ge (tgt := 51) C dX4_runByReplacing_28 rfl (by omega) (by omega) (fun h28 => ?_) (fun h28 => ?_)
      · obtain rfl : i = min room L.length := by omega
        exact hb51 _ N hH hN hF
      · refine g_aload_n C dX4_runByReplacing_31 rfl ?_
        refine gf_Plan_heap C (by omega) tw_71 dX4_runByReplacing_32 ?_
        refine g_aload_n C dX4_runByReplacing_35 rfl ?_
        refine g_iload C dX4_runByReplacing_36 rfl ?_
        refine g_iload_n C dX4_runByReplacing_38 rfl ?_
        refine gc_weightOfN C (by decide) (fun _ h => h.1) (Nat.le_of_ble_eq_true rfl) rfl dX4_runByReplacing_39 hq i (by omega) hRow hb (?_)
        show G X _ 42 _ _
        have hw := wt_in hb (show i < 120 by omega)
        rw [show (kA L i + 999) * 120 + (i : Int) = wt L i from rfl]
        refine gc_Heap_push C (by decide) tw_511 (Nat.le_of_ble_eq_true rfl) rfl dX4_runByReplacing_42 (by omega) _ (by omega) (by rw [ini_len]; omega) hH (fun N2 ⟨n1, n2⟩ => ?_)
        refine g_iinc C dX4_runByReplacing_45 rfl ?_
        show G X _ 48 [_, _, _, _, _, _, _, _, _, _, _, _] _
        refine g_goto (tgt := 24) C dX4_runByReplacing_48 rfl ?_
        show G X _ 24 _ _
        exact ih (i + 1) N2 (by omega) (by omega) n1 (hN.keep (n2 _ (by omega) (by omega)) (n2 _ (by omega) (by omega))) (fun o a b c d => (n2 o c d).trans (hF o a b c d))
  refine g_aload_n C dX4_runByReplacing_0 rfl ?_
  refine gf_Plan_heap C (by omega) tw_71 dX4_runByReplacing_1 ?_
  refine gc_Heap_empty C (by decide) tw_500 (Nat.le_of_ble_eq_true rfl) rfl dX4_runByReplacing_4 (by omega) (fun N ⟨n1, n2⟩ => ?_)
  have hRow : zRow N q L := hL.keep (n2 _ (by omega) (by omega)) (n2 _ (by omega) (by omega)) (n2 _ (by omega) (by omega))
  refine g_aload_n C dX4_runByReplacing_7 rfl ?_
  refine gc_Row_count C (by decide) tw_504 (Nat.le_of_ble_eq_true rfl) rfl dX4_runByReplacing_8 hq hRow (?_)
  refine g_istore C dX4_runByReplacing_11 (Nat.le_of_ble_eq_true rfl) ?_
  show G X _ 13 [_, _, _, _, _, _, _, _, _, _, _, _] _
  refine g_iload_n C dX4_runByReplacing_13 rfl ?_
  refine g_iload C dX4_runByReplacing_14 rfl ?_
  refine gc_min C (by decide) tw_505 (Nat.le_of_ble_eq_true rfl) rfl dX4_runByReplacing_16 _ _ (by omega) (by omega) (?_)
  rw [show (if (room : Int) ≤ (L.length : Int) then (room : Int) else (L.length : Int)) = ((min room L.length : Nat) : Int) by by_cases u : (room : Int) ≤ (L.length : Int) <;> simp [u] <;> omega]
  refine g_istore C dX4_runByReplacing_19 (Nat.le_of_ble_eq_true rfl) ?_
  show G X _ 21 [_, _, _, _, _, _, _, _, _, _, _, _] _
  refine g_iconst C dX4_runByReplacing_21 ?_
  refine g_istore C dX4_runByReplacing_22 (Nat.le_of_ble_eq_true rfl) ?_
  show G X _ 24 [_, _, _, _, _, _, _, _, _, _, _, _] _
  exact lp1 300 0 N (by omega) (Nat.zero_le _) n1 (h.keep (n2 _ (by omega) (by omega)) (n2 _ (by omega) (by omega))) (fun o a b c d => n2 o c d)
theorem gc_Plan_runByReplacing {X : z_X} {cc : ByteArray} {own : String} {ret : Option FieldType} {dC nC : Nat} {M : zM} {pc : Nat} {lv : List (Option Value)} {st : List Value} (C : Cx cc own ret dC nC X) (hdep : 5 ≤ dC) {idx : Nat} (hl0 : Cond.methodLink own idx yX4_runByReplacing ∈ tT) (hcat : (st.map fun v => v.category).sum ≤ 8) (hlen : lv.length = nC) (hdec : decode cc pc = .ok (.invokevirtual idx, 3)) {r : Nat} (hr : r < 2) {q : Nat} (hq : q < 20) {L : List (Int × Int)} (room : Nat) (hrm : 1 ≤ room ∧ room ≤ 10000) (hb : zIn L) (hn : L.length ≤ 100) (hL : zRow M q L) (h : zNum M (4 * r) []) (kk : ∀ M' : zM, (zNum M' (4 * r) (rpR L room) ∧ ∀ o, o ≠ 60 + 2 * (4 * r) → o ≠ 61 + 2 * (4 * r) → o ≠ 76 + 2 * r → o ≠ 77 + 2 * r → M' o = M o) → G X M' (pc + 3) lv st) : G X M pc lv (.int (jI ((room : Int))) :: .int (jI (0)) :: .ref (zA X (3 * q)) :: .ref (zA X (82 + r)) :: st) := by
  refine g_callV (k := 3) (o := 82 + r) C (c_Plan_runByReplacing (zL X) hr hq room hrm hb hn M hL h) mfX4_runByReplacing hl0 ⟨rfl, by decide +kernel, by decide +kernel, by decide +kernel⟩ ⟨hdep, by decide⟩ (by omega) (fun _ _ _ _ => ze_plan (by omega)) rfl rfl rfl rfl hcat hlen hdec (fun v M' h => ?_)
  obtain ⟨rfl, h⟩ := h
  exact kk M' h
set_option maxHeartbeats 4000000 in
set_option maxRecDepth 10000 in
theorem c_Plan_make (l : Launch) {r : Nat} (hr : r < 2) {q : Nat} (hq : q < 20) {L : List (Int × Int)} (rep least : Bool) (pg mem : Nat) (hpg : 1 ≤ pg ∧ pg ≤ 100) (hm : 3 ≤ mem ∧ mem ≤ 12) (hb : zIn L) (hn : L.length ≤ 100) (M : zM) (hL : zRow M q L) : Mt l 5 yX4_make cX4_make 7 none (fun ad => [.ref (ad (82 + r)), .ref (ad (3 * q)), .int (jI (bI rep)), .int (jI (bI least)), .int (jI (0)), .int (jI ((pg : Int))), .int (jI ((mem : Int)))]) M (fun _ vv M' => vv = none ∧ (zPl M' r (pg : Int) (mkR L rep (mem * pg)) (mkZ L rep least pg mem) ∧ zFp M M' r)) := by
  refine Mt.of (fun ad => [some (.ref (ad (82 + r))), some (.ref (ad (3 * q))), some (.int (jI (bI rep))), some (.int (jI (bI least))), some (.int (jI (0))), some (.int (jI ((pg : Int)))), some (.int (jI ((mem : Int))))]) (by decide +kernel) (fun _ => rfl) (fun _ => rfl) (fun _ => Nat.le_of_ble_eq_true rfl) fun X hX C hR => ?_
  subst hX
  show G X M 0 [some (.ref ((zA X) (82 + r))), some (.ref ((zA X) (3 * q))), some (.int (jI (bI rep))), some (.int (jI (bI least))), some (.int (jI (0))), some (.int (jI ((pg : Int)))), some (.int (jI ((mem : Int))))] []
  have hroom : 1 ≤ mem * pg ∧ mem * pg ≤ 10000 := ⟨Nat.mul_pos (by omega) (by omega), Nat.le_trans (Nat.mul_le_mul hm.2 hpg.2) (by omega)⟩
  have hok := mkR_ok (rep := rep) hroom.1 hb (show L.length ≤ 120 by omega)
  have hb59 : ∀ N : zM, zNum N (4 * r) (mkR L rep (mem * pg)) → zNum N (4 * r + 1) [] → zNum N (4 * r + 2) [] → N (82 + r) 7 = (pg : Int) → zFp M N r → G X N 59 [some (.ref (zA X (82 + r))), some (.ref (zA X (3 * q))), some (.int (jI (bI rep))), some (.int (jI (bI least))), some (.int (jI 0)), some (.int (jI (pg : Int))), some (.int (jI (mem : Int)))] [] := by
    intro N hN h1 h2 h7 hF
    have hRow : zRow N q L := hL.keep (hF _ (by omega) (by omega) (by omega) (by omega)) (hF _ (by omega) (by omega) (by omega) (by omega)) (hF _ (by omega) (by omega) (by omega) (by omega))
    refine g_aload_n C dX4_make_59 rfl ?_
    refine g_aload_n C dX4_make_60 rfl ?_
    refine gc_Row_count C (by decide) tw_504 (Nat.le_of_ble_eq_true rfl) rfl dX4_make_61 hq hRow (?_)
    refine gc_Plan_countRuns C (by decide) tw_535 (Nat.le_of_ble_eq_true rfl) rfl dX4_make_64 hr L.length pg (by omega) hpg hok.zv hN h7 (fun N2 ⟨n1, n2, n3, n4⟩ => ?_)
    refine g_aload_n C dX4_make_67 rfl ?_
    refine gf_Plan_row C (by omega) tw_70 dX4_make_68 ?_
    show G X _ 71 _ _
    refine gc_Num_empty C (by decide) tw_492 (Nat.le_of_ble_eq_true rfl) rfl dX4_make_71 (by omega) (fun N3 ⟨n5, n6⟩ => ?_)
    refine g_aload_n C dX4_make_74 rfl ?_
    refine gf_Plan_row C (by omega) tw_70 dX4_make_75 ?_
    refine g_aload_n C dX4_make_78 rfl ?_
    refine gf_Plan_runSizes C (by omega) tw_60 dX4_make_79 ?_
    refine gc_Num_addAll C (by decide) tw_550 (Nat.le_of_ble_eq_true rfl) rfl dX4_make_82 (r := 4 * r + 3) (q := 4 * r) (by omega) (by omega) (by omega) (hN.keep ((n6 _ (by omega) (by omega)).trans (n4 _ (by omega))) ((n6 _ (by omega) (by omega)).trans (n4 _ (by omega)))) n5 (fun N4 ⟨n7, n8⟩ => ?_)
    have hz : zPl N4 r (pg : Int) (mkR L rep (mem * pg)) (mkR L rep (mem * pg), pgs (L.length : Int) (pg : Int), sm ((mkR L rep (mem * pg)).map (fun a => pgs a (pg : Int))) 0 (mkR L rep (mem * pg)).length, [], []) := by
      have e : ∀ o, o ≠ 82 + r → o ≠ 60 + 2 * (4 * r + 3) → o ≠ 61 + 2 * (4 * r + 3) → N4 o = N o := fun o a b c => (n8 o b c).trans ((n6 o b c).trans (n4 o a))
      have e2 : N4 (82 + r) = N2 (82 + r) := (n8 _ (by omega) (by omega)).trans (n6 _ (by omega) (by omega))
      exact ⟨hN.keep (e _ (by omega) (by omega) (by omega)) (e _ (by omega) (by omega) (by omega)), n7, by rw [e2]; exact n1, by rw [e2]; exact n2, h1.keep (e _ (by omega) (by omega) (by omega)) (e _ (by omega) (by omega) (by omega)), h2.keep (e _ (by omega) (by omega) (by omega)) (e _ (by omega) (by omega) (by omega)), by rw [e2]; exact n3⟩
    have hF4 : zFp M N4 r := ((hF.trans (fun o _ _ _ d => n4 o d)).trans (zFp.num n6 (by omega) (by omega))).trans (zFp.num n8 (by omega) (by omega))
    have hlen := hok.len
    show G X _ 85 _ _
    refine g_iload_n C dX4_make_85 rfl ?_
    refine g_if_eq (tgt := 100) C dX4_make_86 rfl (by have := bI_in least; omega) (fun h86 => ?_) (fun h86 => ?_)
    · refine g_aload_n C dX4_make_100 rfl ?_
      refine g_iload C dX4_make_101 rfl ?_
      refine g_iconst C dX4_make_103 ?_
      refine g_isub C dX4_make_104 ?_
      rw [show (mem : Int) - 1 = ((mem - 1 : Nat) : Int) by omega]
      refine gc_Plan_mergeByLevels C (by decide) tw_576 (Nat.le_of_ble_eq_true rfl) rfl dX4_make_105 hr (mem - 1) pg L.length hpg (by omega) (z := (mkR L rep (mem * pg), pgs (L.length : Int) (pg : Int), sm ((mkR L rep (mem * pg)).map (fun a => pgs a (pg : Int))) 0 (mkR L rep (mem * pg)).length, [], [])) hok.zv (by omega) (by show 0 + (mkR L rep (mem * pg)).length ≤ 119; omega) (by show 0 + (mkR L rep (mem * pg)).length ≤ 119; omega) hz (fun N5 ⟨n9, n10⟩ => ?_)
      have hle : least = false := by cases least; rfl; simp [bI] at h86
      refine g_vret C hR dX4_make_108 ?_
      refine ⟨rfl, ?_, hF4.trans n10⟩
      subst hle
      exact n9
    · refine g_aload_n C dX4_make_89 rfl ?_
      refine g_iload C dX4_make_90 rfl ?_
      refine g_iconst C dX4_make_92 ?_
      refine g_isub C dX4_make_93 ?_
      rw [show (mem : Int) - 1 = ((mem - 1 : Nat) : Int) by omega]
      refine gc_Plan_mergeByLeast C (by decide) tw_555 (Nat.le_of_ble_eq_true rfl) rfl dX4_make_94 hr (mem - 1) pg L.length hpg (by omega) (z := (mkR L rep (mem * pg), pgs (L.length : Int) (pg : Int), sm ((mkR L rep (mem * pg)).map (fun a => pgs a (pg : Int))) 0 (mkR L rep (mem * pg)).length, [], [])) hok.zv (by omega) (by show 0 + (mkR L rep (mem * pg)).length ≤ 119; omega) (by show 0 + (mkR L rep (mem * pg)).length ≤ 119; omega) hz (fun N5 ⟨n9, n10⟩ => ?_)
      refine g_goto (tgt := 108) C dX4_make_97 rfl ?_
      show G X _ 108 _ _
      have hle : least = true := by cases least; simp [bI] at h86; rfl
      refine g_vret C hR dX4_make_108 ?_
      refine ⟨rfl, ?_, hF4.trans n10⟩
      subst hle
      exact n9
  refine g_aload_n C dX4_make_0 rfl ?_
  refine g_iload C dX4_make_1 rfl ?_
  refine gp_Plan_page C (by omega) tw_72 dX4_make_3 ?_
  refine g_aload_n C dX4_make_6 rfl ?_
  refine gf_Plan_runSizes C (by omega) tw_60 dX4_make_7 ?_
  refine gc_Num_empty C (by decide) tw_492 (Nat.le_of_ble_eq_true rfl) rfl dX4_make_10 (r := 4 * r) (by omega) (fun N1 ⟨a1, a2⟩ => ?_)
  show G X _ 13 _ _
  refine g_aload_n C dX4_make_13 rfl ?_
  refine gf_Plan_mergeRuns C (by omega) tw_62 dX4_make_14 ?_
  refine gc_Num_empty C (by decide) tw_492 (Nat.le_of_ble_eq_true rfl) rfl dX4_make_17 (r := 4 * r + 1) (by omega) (fun N2 ⟨b1, b2⟩ => ?_)
  refine g_aload_n C dX4_make_20 rfl ?_
  refine gf_Plan_mergeSizes C (by omega) tw_64 dX4_make_21 ?_
  refine gc_Num_empty C (by decide) tw_492 (Nat.le_of_ble_eq_true rfl) rfl dX4_make_24 (r := 4 * r + 2) (by omega) (fun N3 ⟨c1, c2⟩ => ?_)
  have a3 : zNum N3 (4 * r) [] := (a1.apart b2 (by omega)).apart c2 (by omega)
  have b3 : zNum N3 (4 * r + 1) [] := b1.apart c2 (by omega)
  have h7 : N3 (82 + r) 7 = (pg : Int) := by rw [c2 _ (by omega) (by omega), b2 _ (by omega) (by omega), a2 _ (by omega) (by omega), zu_s]
  have hF3 : zFp M N3 r := ((zFp.fld.trans (zFp.num a2 (by omega) (by omega))).trans (zFp.num b2 (by omega) (by omega))).trans (zFp.num c2 (by omega) (by omega))
  have hRow : zRow N3 q L := hL.keep (hF3 _ (by omega) (by omega) (by omega) (by omega)) (hF3 _ (by omega) (by omega) (by omega) (by omega)) (hF3 _ (by omega) (by omega) (by omega) (by omega))
  show G X _ 27 _ _
  refine g_iload_n C dX4_make_27 rfl ?_
  refine g_if_eq (tgt := 46) C dX4_make_28 rfl (by have := bI_in rep; omega) (fun h28 => ?_) (fun h28 => ?_)
  · refine g_aload_n C dX4_make_46 rfl ?_
    refine g_aload_n C dX4_make_47 rfl ?_
    refine gc_Row_count C (by decide) tw_504 (Nat.le_of_ble_eq_true rfl) rfl dX4_make_48 hq hRow (?_)
    refine g_iload C dX4_make_51 rfl ?_
    refine g_iload C dX4_make_53 rfl ?_
    refine g_imul C dX4_make_55 ?_
    show G X _ 56 _ _
    have hrp : rep = false := by cases rep; rfl; simp [bI] at h28
    rw [show (mem : Int) * (pg : Int) = ((mem * pg : Nat) : Int) from rfl]
    refine gc_Plan_runByLoading C (by decide) tw_528 (Nat.le_of_ble_eq_true rfl) rfl dX4_make_56 hr L.length (mem * pg) hn hroom a3 (fun N4 ⟨d1, d2⟩ => ?_)
    exact hb59 N4 (by subst hrp; show zNum N4 (4 * r) (rlS (max 1 (mem * pg)) L.length L.length []); rw [show max 1 (mem * pg) = mem * pg by omega]; exact d1) (b3.apart d2 (by omega)) (c1.apart d2 (by omega)) (by rw [d2 _ (by omega) (by omega)]; exact h7) (hF3.trans (zFp.num d2 (by omega) (by omega)))
  · refine g_aload_n C dX4_make_31 rfl ?_
    refine g_aload_n C dX4_make_32 rfl ?_
    refine g_iload C dX4_make_33 rfl ?_
    refine g_iload C dX4_make_35 rfl ?_
    refine g_iload C dX4_make_37 rfl ?_
    refine g_imul C dX4_make_39 ?_
    show G X _ 40 _ _
    have hrp : rep = true := by cases rep; simp [bI] at h28; rfl
    rw [show (mem : Int) * (pg : Int) = ((mem * pg : Nat) : Int) from rfl]
    refine gc_Plan_runByReplacing C (by decide) tw_496 (Nat.le_of_ble_eq_true rfl) rfl dX4_make_40 hr hq (mem * pg) hroom hb hn hRow a3 (fun N4 ⟨d1, d2⟩ => ?_)
    refine g_goto (tgt := 59) C dX4_make_43 rfl ?_
    show G X _ 59 _ _
    exact hb59 N4 (by subst hrp; exact d1) (b3.keep (d2 _ (by omega) (by omega) (by omega) (by omega)) (d2 _ (by omega) (by omega) (by omega) (by omega))) (c1.keep (d2 _ (by omega) (by omega) (by omega) (by omega)) (d2 _ (by omega) (by omega) (by omega) (by omega))) (by rw [d2 _ (by omega) (by omega) (by omega) (by omega)]; exact h7) (hF3.trans fun o a b c d => d2 o (by omega) (by omega) b c)
theorem gc_Plan_make {X : z_X} {cc : ByteArray} {own : String} {ret : Option FieldType} {dC nC : Nat} {M : zM} {pc : Nat} {lv : List (Option Value)} {st : List Value} (C : Cx cc own ret dC nC X) (hdep : 6 ≤ dC) {idx : Nat} (hl0 : Cond.methodLink own idx yX4_make ∈ tT) (hcat : (st.map fun v => v.category).sum ≤ 8) (hlen : lv.length = nC) (hdec : decode cc pc = .ok (.invokevirtual idx, 3)) {r : Nat} (hr : r < 2) {q : Nat} (hq : q < 20) {L : List (Int × Int)} (rep least : Bool) (pg mem : Nat) (hpg : 1 ≤ pg ∧ pg ≤ 100) (hm : 3 ≤ mem ∧ mem ≤ 12) (hb : zIn L) (hn : L.length ≤ 100) (hL : zRow M q L) (kk : ∀ M' : zM, (zPl M' r (pg : Int) (mkR L rep (mem * pg)) (mkZ L rep least pg mem) ∧ zFp M M' r) → G X M' (pc + 3) lv st) : G X M pc lv (.int (jI ((mem : Int))) :: .int (jI ((pg : Int))) :: .int (jI (0)) :: .int (jI (bI least)) :: .int (jI (bI rep)) :: .ref (zA X (3 * q)) :: .ref (zA X (82 + r)) :: st) := by
  refine g_callV (k := 6) (o := 82 + r) C (c_Plan_make (zL X) hr hq rep least pg mem hpg hm hb hn M hL) mfX4_make hl0 ⟨rfl, by decide +kernel, by decide +kernel, by decide +kernel⟩ ⟨hdep, by decide⟩ (by omega) (fun _ _ _ _ => ze_plan (by omega)) rfl rfl rfl rfl hcat hlen hdec (fun v M' h => ?_)
  obtain ⟨rfl, h⟩ := h
  exact kk M' h
