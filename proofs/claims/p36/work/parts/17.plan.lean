/-! the plan's methods -/
set_option maxHeartbeats 4000000 in
set_option maxRecDepth 10000 in
theorem c_Plan_noteMerge (l : Launch) {r : Nat} (hr : r < 2) {pg : Int} {rs : List Int} {z : zZ} (k v : Int) (h1 : z.2.2.2.1.length < 120) (h2 : z.2.2.2.2.length < 120) (M : zM) (h : zPl M r pg rs z) : Mt l 2 yX4_noteMerge cX4_noteMerge 3 none (fun ad => [.ref (ad (82 + r)), .int (jI (k)), .int (jI (v))]) M (fun _ vv M' => vv = none ∧ (zPl M' r pg rs (z.1, z.2.1, z.2.2.1, z.2.2.2.1 ++ [k], z.2.2.2.2 ++ [v]) ∧ zFp M M' r)) := by
  refine Mt.of (fun ad => [some (.ref (ad (82 + r))), some (.int (jI (k))), some (.int (jI (v)))]) (by decide +kernel) (fun _ => rfl) (fun _ => rfl) (fun _ => Nat.le_of_ble_eq_true rfl) fun X hX C hR => ?_
  subst hX
  show G X M 0 [some (.ref ((zA X) (82 + r))), some (.int (jI (k))), some (.int (jI (v)))] []
  refine g_aload_n C dX4_noteMerge_0 rfl ?_
  refine gf_Plan_mergeRuns C (by omega) tw_62 dX4_noteMerge_1 ?_
  refine g_iload_n C dX4_noteMerge_4 rfl ?_
  refine gc_Num_add C (by decide) tw_524 (Nat.le_of_ble_eq_true rfl) rfl dX4_noteMerge_5 (by omega) _ h1 h.2.2.2.2.1 (fun N ⟨n1, n2⟩ => ?_)
  have g := h.mr hr n1 n2
  refine g_aload_n C dX4_noteMerge_8 rfl ?_
  refine gf_Plan_mergeSizes C (by omega) tw_64 dX4_noteMerge_9 ?_
  show G X _ 12 _ _
  refine g_iload_n C dX4_noteMerge_12 rfl ?_
  refine gc_Num_add C (by decide) tw_524 (Nat.le_of_ble_eq_true rfl) rfl dX4_noteMerge_13 (by omega) _ h2 g.2.2.2.2.2.1 (fun N2 ⟨n3, n4⟩ => ?_)
  refine g_vret C hR dX4_noteMerge_16 ?_
  exact ⟨rfl, g.ms hr n3 n4, (zFp.num n2 (by omega) (by omega)).trans (zFp.num n4 (by omega) (by omega))⟩
theorem gc_Plan_noteMerge {X : z_X} {cc : ByteArray} {own : String} {ret : Option FieldType} {dC nC : Nat} {M : zM} {pc : Nat} {lv : List (Option Value)} {st : List Value} (C : Cx cc own ret dC nC X) (hdep : 3 ≤ dC) {idx : Nat} (hl0 : Cond.methodLink own idx yX4_noteMerge ∈ tT) (hcat : (st.map fun v => v.category).sum ≤ 8) (hlen : lv.length = nC) (hdec : decode cc pc = .ok (.invokevirtual idx, 3)) {r : Nat} (hr : r < 2) {pg : Int} {rs : List Int} {z : zZ} (k v : Int) (h1 : z.2.2.2.1.length < 120) (h2 : z.2.2.2.2.length < 120) (h : zPl M r pg rs z) (kk : ∀ M' : zM, (zPl M' r pg rs (z.1, z.2.1, z.2.2.1, z.2.2.2.1 ++ [k], z.2.2.2.2 ++ [v]) ∧ zFp M M' r) → G X M' (pc + 3) lv st) : G X M pc lv (.int (jI (v)) :: .int (jI (k)) :: .ref (zA X (82 + r)) :: st) := by
  refine g_callV (k := 2) (o := 82 + r) C (c_Plan_noteMerge (zL X) hr k v h1 h2 M h) mfX4_noteMerge hl0 ⟨rfl, by decide +kernel, by decide +kernel, by decide +kernel⟩ ⟨hdep, by decide⟩ (by omega) (fun _ _ _ _ => ze_plan (by omega)) rfl rfl rfl rfl hcat hlen hdec (fun v M' h => ?_)
  obtain ⟨rfl, h⟩ := h
  exact kk M' h
set_option maxHeartbeats 4000000 in
set_option maxRecDepth 10000 in
theorem c_Plan_runByLoading (l : Launch) {r : Nat} (hr : r < 2) (n step : Nat) (hn : n ≤ 100) (hs : 1 ≤ step ∧ step ≤ 10000) (M : zM) (h : zNum M (4 * r) []) : Mt l 2 yX4_runByLoading cX4_runByLoading 5 none (fun ad => [.ref (ad (82 + r)), .int (jI ((n : Int))), .int (jI ((step : Int)))]) M (fun _ vv M' => vv = none ∧ (zNum M' (4 * r) (rlS step n n []) ∧ zFn M M' (4 * r))) := by
  refine Mt.of (fun ad => [some (.ref (ad (82 + r))), some (.int (jI ((n : Int)))), some (.int (jI ((step : Int)))), none, none]) (by decide +kernel) (fun _ => rfl) (fun _ => rfl) (fun _ => Nat.le_of_ble_eq_true rfl) fun X hX C hR => ?_
  subst hX
  show G X M 0 [some (.ref ((zA X) (82 + r))), some (.int (jI ((n : Int)))), some (.int (jI ((step : Int)))), none, none] []
  have lp : ∀ (fk : Nat) (from_ : Nat) (acc : List Int) (N : zM), n - from_ < fk → acc.length ≤ from_ → from_ ≤ 20000 → rlS step (n - from_) (n - from_) acc = rlS step n n [] → zNum N (4 * r) acc → zFn M N (4 * r) → G X N 9 [some (.ref (zA X (82 + r))), some (.int (jI (n : Int))), some (.int (jI (step : Int))), some (.int (jI (step : Int))), some (.int (jI (from_ : Int)))] [] := by
    intro fk
    induction fk with
    | zero => intro from_ acc N hk; exact absurd hk (Nat.not_lt_zero _)
    | succ fk ih =>
      intro from_ acc N hk h1 _ h3 h4 h5
      refine g_iload C dX4_runByLoading_9 rfl ?_
      refine g_iload_n C dX4_runByLoading_11 rfl ?_
      refine g_icmp_ge (tgt := 39) C dX4_runByLoading_12 rfl (by omega) (by omega) (fun h12 => ?_) (fun h12 => ?_)
      · refine g_vret C hR dX4_runByLoading_39 ?_
        refine ⟨rfl, ?_, h5⟩
        rw [← h3, show n - from_ = 0 by omega, rlS]
        exact h4
      · refine g_aload_n C dX4_runByLoading_15 rfl ?_
        refine gf_Plan_runSizes C (by omega) tw_60 dX4_runByLoading_16 ?_
        refine g_iload_n C dX4_runByLoading_19 rfl ?_
        refine g_iload_n C dX4_runByLoading_20 rfl ?_
        refine g_iload C dX4_runByLoading_21 rfl ?_
        refine g_isub C dX4_runByLoading_23 ?_
        show G X _ 24 _ _
        refine gc_min C (by decide) tw_505 (Nat.le_of_ble_eq_true rfl) rfl dX4_runByLoading_24 _ _ (by omega) (by omega) (?_)
        refine gc_Num_add C (by decide) tw_524 (Nat.le_of_ble_eq_true rfl) rfl dX4_runByLoading_27 (by omega) _ (by omega) h4 (fun N2 ⟨n1, n2⟩ => ?_)
        refine g_iload C dX4_runByLoading_30 rfl ?_
        refine g_iload_n C dX4_runByLoading_32 rfl ?_
        refine g_iadd C dX4_runByLoading_33 ?_
        refine g_istore C dX4_runByLoading_34 (Nat.le_of_ble_eq_true rfl) ?_
        show G X _ 36 [_, _, _, _, _] _
        refine g_goto (tgt := 9) C dX4_runByLoading_36 rfl ?_
        show G X _ 9 _ _
        rw [show (from_ : Int) + (step : Int) = ((from_ + step : Nat) : Int) by omega]
        refine ih (from_ + step) (acc ++ [((min step (n - from_) : Nat) : Int)]) _ (by omega) (by rw [List.length_append]; simp; omega) (by omega) ?_ ?_ (h5.trans n2)
        · rw [← h3, show n - from_ = (n - from_ - 1) + 1 by omega, rlS, if_neg (by omega), show n - from_ - 1 + 1 = n - from_ by omega]
          rw [show n - (from_ + step) = n - from_ - step by omega]
          exact (rlS_fuel _ _ _ _ _ (by omega) (by omega) (by omega))
        · rw [show ((min step (n - from_) : Nat) : Int) = (if (step : Int) ≤ (n : Int) - (from_ : Int) then (step : Int) else (n : Int) - (from_ : Int)) by by_cases q : (step : Int) ≤ (n : Int) - (from_ : Int) <;> simp [q] <;> omega]
          exact n1
  refine g_iconst C dX4_runByLoading_0 ?_
  refine g_iload_n C dX4_runByLoading_1 rfl ?_
  refine gc_max C (by decide) tw_532 (Nat.le_of_ble_eq_true rfl) rfl dX4_runByLoading_2 _ _ (by omega) (by omega) (?_)
  rw [show (if (step : Int) ≤ 1 then (1 : Int) else (step : Int)) = (step : Int) by by_cases q : (step : Int) ≤ 1 <;> simp [q] <;> omega]
  refine g_istore_n C dX4_runByLoading_5 (Nat.le_of_ble_eq_true rfl) ?_
  show G X _ 6 [_, _, _, _, _] _
  refine g_iconst C dX4_runByLoading_6 ?_
  refine g_istore C dX4_runByLoading_7 (Nat.le_of_ble_eq_true rfl) ?_
  show G X _ 9 [_, _, _, _, _] _
  exact lp 300 0 [] M (by omega) (Nat.le_refl _) (by omega) rfl h zFn.refl
theorem gc_Plan_runByLoading {X : z_X} {cc : ByteArray} {own : String} {ret : Option FieldType} {dC nC : Nat} {M : zM} {pc : Nat} {lv : List (Option Value)} {st : List Value} (C : Cx cc own ret dC nC X) (hdep : 3 ≤ dC) {idx : Nat} (hl0 : Cond.methodLink own idx yX4_runByLoading ∈ tT) (hcat : (st.map fun v => v.category).sum ≤ 8) (hlen : lv.length = nC) (hdec : decode cc pc = .ok (.invokevirtual idx, 3)) {r : Nat} (hr : r < 2) (n step : Nat) (hn : n ≤ 100) (hs : 1 ≤ step ∧ step ≤ 10000) (h : zNum M (4 * r) []) (kk : ∀ M' : zM, (zNum M' (4 * r) (rlS step n n []) ∧ zFn M M' (4 * r)) → G X M' (pc + 3) lv st) : G X M pc lv (.int (jI ((step : Int))) :: .int (jI ((n : Int))) :: .ref (zA X (82 + r)) :: st) := by
  refine g_callV (k := 2) (o := 82 + r) C (c_Plan_runByLoading (zL X) hr n step hn hs M h) mfX4_runByLoading hl0 ⟨rfl, by decide +kernel, by decide +kernel, by decide +kernel⟩ ⟨hdep, by decide⟩ (by omega) (fun _ _ _ _ => ze_plan (by omega)) rfl rfl rfl rfl hcat hlen hdec (fun v M' h => ?_)
  obtain ⟨rfl, h⟩ := h
  exact kk M' h
set_option maxHeartbeats 4000000 in
set_option maxRecDepth 10000 in
theorem c_Plan_countRuns (l : Launch) {r : Nat} (hr : r < 2) (n pg : Nat) {rs : List Int} (hn : n ≤ 120) (hpg : 1 ≤ pg ∧ pg ≤ 100) (hv : zV rs (n : Int)) (M : zM) (h : zNum M (4 * r) rs) (hp : M (82 + r) 7 = (pg : Int)) : Mt l 2 yX4_countRuns cX4_countRuns 3 none (fun ad => [.ref (ad (82 + r)), .int (jI ((n : Int)))]) M (fun _ vv M' => vv = none ∧ (M' (82 + r) 3 = pgs (n : Int) (pg : Int) ∧ M' (82 + r) 4 = sm (rs.map (fun a => pgs a (pg : Int))) 0 rs.length ∧ M' (82 + r) 7 = (pg : Int) ∧ ∀ o, o ≠ 82 + r → M' o = M o)) := by
  refine Mt.of (fun ad => [some (.ref (ad (82 + r))), some (.int (jI ((n : Int)))), none]) (by decide +kernel) (fun _ => rfl) (fun _ => rfl) (fun _ => Nat.le_of_ble_eq_true rfl) fun X hX C hR => ?_
  subst hX
  show G X M 0 [some (.ref ((zA X) (82 + r))), some (.int (jI ((n : Int)))), none] []
  have lp : ∀ (fk : Nat) (i : Nat) (N : zM), 200 - i < fk → i ≤ rs.length → N (82 + r) 3 = pgs (n : Int) (pg : Int) → N (82 + r) 4 = sm (rs.map (fun a => pgs a (pg : Int))) 0 i → N (82 + r) 7 = (pg : Int) → (∀ o, o ≠ 82 + r → N o = M o) → G X N 19 [some (.ref (zA X (82 + r))), some (.int (jI (n : Int))), some (.int (jI (i : Int)))] [] := by
    intro fk
    induction fk with
    | zero => intro i N hk; exact absurd hk (Nat.not_lt_zero _)
    | succ fk ih =>
      intro i N hk h1 h2 h3 h4 h5
      have hN : zNum N (4 * r) rs := h.keep (h5 _ (by omega)) (h5 _ (by omega))
      have hl2 := h.2.1
      have b1 := hv.at (by omega) i
      refine g_iload_n C dX4_countRuns_19 rfl ?_
      refine g_aload_n C dX4_countRuns_20 rfl ?_
      refine gf_Plan_runSizes C (by omega) tw_60 dX4_countRuns_21 ?_
      refine gc_Num_count C (by decide) tw_542 (Nat.le_of_ble_eq_true rfl) rfl dX4_countRuns_24 (by omega) hN (?_)
      refine g_icmp_ge (tgt := 60) C dX4_countRuns_27 rfl (by omega) (by omega) (fun h27 => ?_) (fun h27 => ?_)
      · refine g_vret C hR dX4_countRuns_60 ?_
        refine ⟨rfl, h2, ?_, h4, h5⟩
        rw [h3, show i = rs.length by omega]
      · refine g_aload_n C dX4_countRuns_30 rfl ?_
        refine g_dup C dX4_countRuns_31 rfl ?_
        refine gf_Plan_writtenPages C (by omega) tw_68 dX4_countRuns_32 ?_
        rw [h3]
        refine g_aload_n C dX4_countRuns_35 rfl ?_
        refine gf_Plan_runSizes C (by omega) tw_60 dX4_countRuns_36 ?_
        refine g_iload_n C dX4_countRuns_39 rfl ?_
        show G X _ 40 _ _
        refine gc_Num_valueAt C (by decide) tw_546 (Nat.le_of_ble_eq_true rfl) rfl dX4_countRuns_40 (by omega) i (by omega) hN (?_)
        refine g_aload_n C dX4_countRuns_43 rfl ?_
        refine gf_Plan_page C (by omega) tw_72 dX4_countRuns_44 ?_
        rw [h4]
        refine gc_pagesForN C (by decide) (fun _ h => h.2) (Nat.le_of_ble_eq_true rfl) rfl dX4_countRuns_47 _ _ (by omega) (by omega) (?_)
        refine g_iadd C dX4_countRuns_50 ?_
        refine gp_Plan_writtenPages C (by omega) tw_68 dX4_countRuns_51 ?_
        show G X _ 54 _ _
        refine g_iinc C dX4_countRuns_54 rfl ?_
        show G X _ 57 [_, _, _] _
        refine g_goto (tgt := 19) C dX4_countRuns_57 rfl ?_
        show G X _ 19 _ _
        exact ih (i + 1) _ (by omega) (by omega) (by rw [zu_k _ _ _ _ (by omega)]; exact h2) (by rw [zu_s, sm_map1 (by omega) (by omega)]) (by rw [zu_k _ _ _ _ (by omega)]; exact h4) (fun o g => (zu_o _ _ _ _ g).trans (h5 o g))
  refine g_aload_n C dX4_countRuns_0 rfl ?_
  refine g_iload_n C dX4_countRuns_1 rfl ?_
  refine g_aload_n C dX4_countRuns_2 rfl ?_
  refine gf_Plan_page C (by omega) tw_72 dX4_countRuns_3 ?_
  rw [hp]
  refine gc_pagesForN C (by decide) (fun _ h => h.2) (Nat.le_of_ble_eq_true rfl) rfl dX4_countRuns_6 _ _ (by omega) (by omega) (?_)
  refine gp_Plan_readPages C (by omega) tw_66 dX4_countRuns_9 ?_
  show G X _ 12 _ _
  refine g_aload_n C dX4_countRuns_12 rfl ?_
  refine g_iconst C dX4_countRuns_13 ?_
  refine gp_Plan_writtenPages C (by omega) tw_68 dX4_countRuns_14 ?_
  refine g_iconst C dX4_countRuns_17 ?_
  refine g_istore_n C dX4_countRuns_18 (Nat.le_of_ble_eq_true rfl) ?_
  show G X _ 19 [_, _, _] _
  exact lp 300 0 _ (by omega) (Nat.zero_le _) (by rw [zu_k _ _ _ _ (by omega), zu_s]) (by rw [zu_s, sm_0]) (by rw [zu_k _ _ _ _ (by omega), zu_k _ _ _ _ (by omega)]; exact hp) (fun o g => by rw [zu_o _ _ _ _ g, zu_o _ _ _ _ g])
theorem gc_Plan_countRuns {X : z_X} {cc : ByteArray} {own : String} {ret : Option FieldType} {dC nC : Nat} {M : zM} {pc : Nat} {lv : List (Option Value)} {st : List Value} (C : Cx cc own ret dC nC X) (hdep : 3 ≤ dC) {idx : Nat} (hl0 : Cond.methodLink own idx yX4_countRuns ∈ tT) (hcat : (st.map fun v => v.category).sum ≤ 8) (hlen : lv.length = nC) (hdec : decode cc pc = .ok (.invokevirtual idx, 3)) {r : Nat} (hr : r < 2) (n pg : Nat) {rs : List Int} (hn : n ≤ 120) (hpg : 1 ≤ pg ∧ pg ≤ 100) (hv : zV rs (n : Int)) (h : zNum M (4 * r) rs) (hp : M (82 + r) 7 = (pg : Int)) (kk : ∀ M' : zM, (M' (82 + r) 3 = pgs (n : Int) (pg : Int) ∧ M' (82 + r) 4 = sm (rs.map (fun a => pgs a (pg : Int))) 0 rs.length ∧ M' (82 + r) 7 = (pg : Int) ∧ ∀ o, o ≠ 82 + r → M' o = M o) → G X M' (pc + 3) lv st) : G X M pc lv (.int (jI ((n : Int))) :: .ref (zA X (82 + r)) :: st) := by
  refine g_callV (k := 1) (o := 82 + r) C (c_Plan_countRuns (zL X) hr n pg hn hpg hv M h hp) mfX4_countRuns hl0 ⟨rfl, by decide +kernel, by decide +kernel, by decide +kernel⟩ ⟨hdep, by decide⟩ (by omega) (fun _ _ _ _ => ze_plan (by omega)) rfl rfl rfl rfl hcat hlen hdec (fun v M' h => ?_)
  obtain ⟨rfl, h⟩ := h
  exact kk M' h
set_option maxHeartbeats 4000000 in
set_option maxRecDepth 10000 in
theorem c_Plan_mergeLeast (l : Launch) {r : Nat} (hr : r < 2) (k pg : Nat) (n : Int) {rs : List Int} {z : zZ} (hpg : 1 ≤ pg ∧ pg ≤ 100) (hn : 0 ≤ n ∧ n ≤ 1000) (hv : zV z.1 n) (hkk : 1 ≤ k ∧ k ≤ z.1.length) (h1 : z.2.2.2.1.length < 120) (h2 : z.2.2.2.2.length < 120) (M : zM) (h : zPl M r (pg : Int) rs z) : Mt l 3 yX4_mergeLeast cX4_mergeLeast 5 none (fun ad => [.ref (ad (82 + r)), .int (jI ((k : Int)))]) M (fun _ vv M' => vv = none ∧ (zPl M' r (pg : Int) rs (lsS (pg : Int) k z) ∧ zFp M M' r)) := by
  refine Mt.of (fun ad => [some (.ref (ad (82 + r))), some (.int (jI ((k : Int)))), none, none, none]) (by decide +kernel) (fun _ => rfl) (fun _ => rfl) (fun _ => Nat.le_of_ble_eq_true rfl) fun X hX C hR => ?_
  subst hX
  show G X M 0 [some (.ref ((zA X) (82 + r))), some (.int (jI ((k : Int)))), none, none, none] []
  have hb54 : ∀ (sz : Int) (Lr : List Int) (rd : Int) (N : zM) {y3 : Option Value}, sz = (tkS (pg : Int) k (z.1, z.2.1, 0)).2.2 → Lr = (tkS (pg : Int) k (z.1, z.2.1, 0)).1 → rd = (tkS (pg : Int) k (z.1, z.2.1, 0)).2.1 → (Lr.length < 120 ∧ 0 ≤ sz ∧ sz ≤ 1000) → zPl N r (pg : Int) rs (Lr, rd, z.2.2) → zFp M N r → G X N 54 [some (.ref (zA X (82 + r))), some (.int (jI (k : Int))), some (.int (jI sz)), y3, none] [] := by
    intro sz Lr rd N y3 e1 e2 e3 hs hN hF
    refine g_aload_n C dX4_mergeLeast_54 rfl ?_
    refine gf_Plan_row C (by omega) tw_70 dX4_mergeLeast_55 ?_
    refine g_iload_n C dX4_mergeLeast_58 rfl ?_
    refine gc_Num_add C (by decide) tw_524 (Nat.le_of_ble_eq_true rfl) rfl dX4_mergeLeast_59 (by omega) (L := Lr) _ hs.1 hN.2.1 (fun N2 ⟨n1, n2⟩ => ?_)
    have g1 : zPl N2 r (pg : Int) rs (Lr ++ [sz], rd, z.2.2) := hN.row hr n1 n2
    refine g_aload_n C dX4_mergeLeast_62 rfl ?_
    refine g_dup C dX4_mergeLeast_63 rfl ?_
    show G X _ 64 _ _
    refine gf_Plan_writtenPages C (by omega) tw_68 dX4_mergeLeast_64 ?_
    rw [show N2 (82 + r) 4 = z.2.2.1 from g1.2.2.2.1]
    refine g_iload_n C dX4_mergeLeast_67 rfl ?_
    refine g_aload_n C dX4_mergeLeast_68 rfl ?_
    refine gf_Plan_page C (by omega) tw_72 dX4_mergeLeast_69 ?_
    rw [g1.2.2.2.2.2.2]
    refine gc_pagesForN C (by decide) (fun _ h => h.2) (Nat.le_of_ble_eq_true rfl) rfl dX4_mergeLeast_72 _ _ (by omega) (by omega) (?_)
    refine g_iadd C dX4_mergeLeast_75 ?_
    show G X _ 76 _ _
    refine gp_Plan_writtenPages C (by omega) tw_68 dX4_mergeLeast_76 ?_
    have g2 : zPl (zu N2 (82 + r) 4 (z.2.2.1 + pgs sz (pg : Int))) r (pg : Int) rs (Lr ++ [sz], rd, z.2.2.1 + pgs sz (pg : Int), z.2.2.2) := g1.wr hr _
    refine g_aload_n C dX4_mergeLeast_79 rfl ?_
    refine g_iload_n C dX4_mergeLeast_80 rfl ?_
    refine g_iload_n C dX4_mergeLeast_81 rfl ?_
    refine gc_Plan_noteMerge C (by decide) tw_572 (Nat.le_of_ble_eq_true rfl) rfl dX4_mergeLeast_82 hr (pg := (pg : Int)) (rs := rs) (z := (Lr ++ [sz], rd, z.2.2.1 + pgs sz (pg : Int), z.2.2.2)) _ _ h1 h2 g2 (fun N4 ⟨n3, n4⟩ => ?_)
    refine g_vret C hR dX4_mergeLeast_85 ?_
    refine ⟨rfl, ?_, ((hF.trans (zFp.num n2 (by omega) (by omega))).trans zFp.fld).trans n4⟩
    unfold lsS
    rw [← e1, ← e2, ← e3]
    exact n3
  have lp : ∀ (fk : Nat) (t : Nat) (w : List Int × Int × Int) (N : zM), k - t < fk → t ≤ k → k - t ≤ w.1.length → (∀ v ∈ w.1, 0 ≤ v) → 0 ≤ w.2.2 → w.1.sum + w.2.2 = n → tkS (pg : Int) (k - t) w = tkS (pg : Int) k (z.1, z.2.1, 0) → zPl N r (pg : Int) rs (w.1, w.2.1, z.2.2) → zFp M N r → G X N 4 [some (.ref (zA X (82 + r))), some (.int (jI (k : Int))), some (.int (jI w.2.2)), some (.int (jI (t : Int))), none] [] := by
    intro fk
    induction fk with
    | zero => intro t w N hk; exact absurd hk (Nat.not_lt_zero _)
    | succ fk ih =>
      intro t w N hk t1 t2 t3 t4 t5 t6 hN hF
      have hz := h.2.1.2.1
      have hw : zV w.1 (n - w.2.2) := ⟨t3, by omega⟩
      have hnn := sum_nn t3
      have hbb : ∀ i, 0 ≤ nA w.1 i ∧ nA w.1 i ≤ 2000000000 := fun i => by have := hw.at (by omega) i; omega
      have hrow : zNum N (4 * r + 3) w.1 := hN.2.1
      have hq0 : t < k → lpF w.1 w.1.length < w.1.length := fun g => lpF_lt _ _ (by omega)
      have b1 := hw.at (by omega) (lpF w.1 w.1.length)
      refine g_iload_n C dX4_mergeLeast_4 rfl ?_
      refine g_iload_n C dX4_mergeLeast_5 rfl ?_
      refine g_icmp_ge (tgt := 54) C dX4_mergeLeast_6 rfl (by omega) (by omega) (fun h6 => ?_) (fun h6 => ?_)
      · refine hb54 w.2.2 w.1 w.2.1 _ ?_ ?_ ?_ ?_ hN hF
        · rw [← t6, show k - t = 0 by omega, tkS]
        · rw [← t6, show k - t = 0 by omega, tkS]
        · rw [← t6, show k - t = 0 by omega, tkS]
        · refine ⟨?_, t4, ?_⟩
          · have e1 := hN.2.1.2.1
            have e2 : w.1.length = z.1.length - k := by
              have := (tkS_keep (pg : Int) k (z.1, z.2.1, 0) hkk.2 hv.1 (Int.le_refl 0)).2.2.1
              rw [← t6, show k - t = 0 by omega, tkS] at this
              exact this
            omega
          · have := sum_nn t3
            omega
      · have hq := hq0 (by omega)
        refine g_aload_n C dX4_mergeLeast_9 rfl ?_
        refine gf_Plan_row C (by omega) tw_70 dX4_mergeLeast_10 ?_
        refine g_aload_n C dX4_mergeLeast_13 rfl ?_
        refine gf_Plan_row C (by omega) tw_70 dX4_mergeLeast_14 ?_
        refine gc_Num_leastPlace C (by decide) tw_564 (Nat.le_of_ble_eq_true rfl) rfl dX4_mergeLeast_17 (by omega) hrow hbb (?_)
        refine gc_Num_takeAt C (by decide) tw_568 (Nat.le_of_ble_eq_true rfl) rfl dX4_mergeLeast_20 (by omega) _ hq hrow (fun x N2 ⟨n1, n2, n3⟩ => ?_)
        rw [n1]
        have g1 : zPl N2 r (pg : Int) rs (w.1.eraseIdx (lpF w.1 w.1.length), w.2.1, z.2.2) := hN.row hr n2 n3
        show G X _ 23 _ _
        refine g_istore C dX4_mergeLeast_23 (Nat.le_of_ble_eq_true rfl) ?_
        show G X _ 25 [_, _, _, _, _] _
        refine g_aload_n C dX4_mergeLeast_25 rfl ?_
        refine g_dup C dX4_mergeLeast_26 rfl ?_
        refine gf_Plan_readPages C (by omega) tw_66 dX4_mergeLeast_27 ?_
        rw [show N2 (82 + r) 3 = w.2.1 from g1.2.2.1]
        refine g_iload C dX4_mergeLeast_30 rfl ?_
        refine g_aload_n C dX4_mergeLeast_32 rfl ?_
        refine gf_Plan_page C (by omega) tw_72 dX4_mergeLeast_33 ?_
        rw [g1.2.2.2.2.2.2]
        show G X _ 36 _ _
        refine gc_pagesForN C (by decide) (fun _ h => h.2) (Nat.le_of_ble_eq_true rfl) rfl dX4_mergeLeast_36 _ _ (by omega) (by omega) (?_)
        refine g_iadd C dX4_mergeLeast_39 ?_
        refine gp_Plan_readPages C (by omega) tw_66 dX4_mergeLeast_40 ?_
        refine g_iload_n C dX4_mergeLeast_43 rfl ?_
        refine g_iload C dX4_mergeLeast_44 rfl ?_
        refine g_iadd C dX4_mergeLeast_46 ?_
        show G X _ 47 _ _
        refine g_istore_n C dX4_mergeLeast_47 (Nat.le_of_ble_eq_true rfl) ?_
        show G X _ 48 [_, _, _, _, _] _
        refine g_iinc C dX4_mergeLeast_48 rfl ?_
        show G X _ 51 [_, _, _, _, _] _
        refine g_goto (tgt := 4) C dX4_mergeLeast_51 rfl ?_
        show G X _ 4 _ _
        refine g_mask [true, true, true, true, false] rfl ?_
        show G X _ 4 [_, _, _, _, _] _
        have e1 := erase_sum hq
        exact ih (t + 1) (w.1.eraseIdx (lpF w.1 w.1.length), w.2.1 + pgs (nA w.1 (lpF w.1 w.1.length)) (pg : Int), w.2.2 + nA w.1 (lpF w.1 w.1.length)) _ (by omega) (by omega) (by show k - (t + 1) ≤ (w.1.eraseIdx _).length; rw [List.length_eraseIdx_of_lt hq]; omega) (fun v hv => t3 v (mem_erase hv)) (by show 0 ≤ w.2.2 + _; omega) (by show (w.1.eraseIdx _).sum + (w.2.2 + _) = n; omega) (by rw [← t6, show k - t = (k - (t + 1)) + 1 by omega, tkS]) (g1.rd hr _) ((hF.trans (zFp.num n3 (by omega) (by omega))).trans zFp.fld)
  refine g_iconst C dX4_mergeLeast_0 ?_
  refine g_istore_n C dX4_mergeLeast_1 (Nat.le_of_ble_eq_true rfl) ?_
  show G X _ 2 [_, _, _, _, _] _
  refine g_iconst C dX4_mergeLeast_2 ?_
  refine g_istore_n C dX4_mergeLeast_3 (Nat.le_of_ble_eq_true rfl) ?_
  show G X _ 4 [_, _, _, _, _] _
  exact lp 300 0 (z.1, z.2.1, 0) M (by have := h.2.1.2.1; omega) (Nat.zero_le _) (by show k - 0 ≤ z.1.length; omega) hv.1 (Int.le_refl 0) (by show z.1.sum + 0 = n; rw [hv.2]; omega) rfl h zFp.refl
theorem gc_Plan_mergeLeast {X : z_X} {cc : ByteArray} {own : String} {ret : Option FieldType} {dC nC : Nat} {M : zM} {pc : Nat} {lv : List (Option Value)} {st : List Value} (C : Cx cc own ret dC nC X) (hdep : 4 ≤ dC) {idx : Nat} (hl0 : Cond.methodLink own idx yX4_mergeLeast ∈ tT) (hcat : (st.map fun v => v.category).sum ≤ 8) (hlen : lv.length = nC) (hdec : decode cc pc = .ok (.invokevirtual idx, 3)) {r : Nat} (hr : r < 2) (k pg : Nat) (n : Int) {rs : List Int} {z : zZ} (hpg : 1 ≤ pg ∧ pg ≤ 100) (hn : 0 ≤ n ∧ n ≤ 1000) (hv : zV z.1 n) (hkk : 1 ≤ k ∧ k ≤ z.1.length) (h1 : z.2.2.2.1.length < 120) (h2 : z.2.2.2.2.length < 120) (h : zPl M r (pg : Int) rs z) (kk : ∀ M' : zM, (zPl M' r (pg : Int) rs (lsS (pg : Int) k z) ∧ zFp M M' r) → G X M' (pc + 3) lv st) : G X M pc lv (.int (jI ((k : Int))) :: .ref (zA X (82 + r)) :: st) := by
  refine g_callV (k := 1) (o := 82 + r) C (c_Plan_mergeLeast (zL X) hr k pg n hpg hn hv hkk h1 h2 M h) mfX4_mergeLeast hl0 ⟨rfl, by decide +kernel, by decide +kernel, by decide +kernel⟩ ⟨hdep, by decide⟩ (by omega) (fun _ _ _ _ => ze_plan (by omega)) rfl rfl rfl rfl hcat hlen hdec (fun v M' h => ?_)
  obtain ⟨rfl, h⟩ := h
  exact kk M' h
