/-! the law: how it begins -/
theorem gc_cell {X : z_X} {b : Nat} {M : zM} {pc : Nat} {lv : List (Option Value)} {st : List Value} (C : Cx cL_law RL (some .boolean) 100 18 X) (hdep : 1 ≤ 100) (hl0 : Cond.methodLink RL 20 yL_cell ∈ tT) (hcat : (st.map fun v => v.category).sum ≤ 8) (hlen : lv.length = 18) (hdec : decode cL_law pc = .ok (.invokestatic 20, 3)) (hcell : zHcell X b) (k : Nat) (hk : k < 32) (kk : ∀ v : Int32, G X M (pc + 3) lv (.int v :: st)) : G X M pc lv (.int (jI (k : Int)) :: .ref b :: st) := hcell M pc k lv st hk hdec hlen hcat kk
theorem prL_in {first step span : Int} (h : 1 ≤ span ∧ span ≤ 999) : ∀ k, zIn (prL first step span k)
  | 0 => zIn.nil
  | k + 1 => by
    rw [prL]
    have a := Int.emod_nonneg (first + (k : Int) * step) (show span ≠ 0 by omega)
    have b := Int.emod_lt_of_pos (first + (k : Int) * step) (show 0 < span by omega)
    exact (prL_in h k).app (by omega) (by omega)
/-- what the walk's start asks of the table -/
def lw0 (M : zM) : Prop := M 95 1 = 0 ∧ M 84 0 = 0 ∧ M 84 4 = 0 ∧ M 84 5 = 0 ∧ M 60 1 = 0 ∧ M 62 1 = 0 ∧ M 64 1 = 0 ∧ M 66 1 = 0
set_option maxHeartbeats 4000000 in
set_option maxRecDepth 10000 in
theorem lw_begin {X : z_X} (C : Cx cL_law RL (some .boolean) 100 18 X) (hend : zHend X) {b : Nat} (hcell : zHcell X b) {M : zM} (h0 : lw0 M) : G X M 8 [some (.ref b), some (.ref (zA X 95)), none, none, none, none, none, none, none, none, none, none, none, none, none, none, none, none] [] := by
  refine g_iconst C dL_law_8 ?_
  refine g_aload_n C dL_law_9 rfl ?_
  refine g_iconst C dL_law_10 ?_
  refine gc_cell C (by decide) tw_847 (Nat.le_of_ble_eq_true rfl) rfl dL_law_11 hcell 0 (by omega) (fun v => ?_)
  refine g_iconst C dL_law_14 ?_
  refine gc_L_below C (by decide) tw_843 (Nat.le_of_ble_eq_true rfl) rfl dL_law_15 _ 4 (by omega) (fun x M' ⟨⟨x1, x2⟩, hM'⟩ => ?_)
  replace hM' := hM'.symm
  subst hM'
  show G X _ 18 _ _
  refine g_iadd C dL_law_18 ?_
  obtain ⟨pg, hpg⟩ : ∃ pg : Nat, (2 : Int) + x = (pg : Int) := ⟨(2 + x).toNat, by omega⟩
  rw [hpg]
  refine g_istore_n C dL_law_19 (Nat.le_of_ble_eq_true rfl) ?_
  show G X _ 20 [_, _, _, _, _, _, _, _, _, _, _, _, _, _, _, _, _, _] _
  refine g_iconst C dL_law_20 ?_
  refine g_aload_n C dL_law_21 rfl ?_
  refine g_iconst C dL_law_22 ?_
  refine gc_cell C (by decide) tw_847 (Nat.le_of_ble_eq_true rfl) rfl dL_law_23 hcell 1 (by omega) (fun v => ?_)
  refine g_iconst C dL_law_26 ?_
  refine gc_L_below C (by decide) tw_843 (Nat.le_of_ble_eq_true rfl) rfl dL_law_27 _ 4 (by omega) (fun z M' ⟨⟨z1, z2⟩, hM'⟩ => ?_)
  replace hM' := hM'.symm
  subst hM'
  show G X _ 30 _ _
  refine g_iadd C dL_law_30 ?_
  obtain ⟨mem, hmem⟩ : ∃ mem : Nat, (3 : Int) + z = (mem : Int) := ⟨(3 + z).toNat, by omega⟩
  rw [hmem]
  refine g_istore_n C dL_law_31 (Nat.le_of_ble_eq_true rfl) ?_
  show G X _ 32 [_, _, _, _, _, _, _, _, _, _, _, _, _, _, _, _, _, _] _
  refine g_aload_n C dL_law_32 rfl ?_
  refine g_iload_n C dL_law_33 rfl ?_
  refine g_iload_n C dL_law_34 rfl ?_
  refine gc_setMemory C (by decide) tw_257 (Nat.le_of_ble_eq_true rfl) rfl dL_law_35 _ _ (by omega) (by omega) (fun y M0 hM0 => ?_)
  have e0 : ∀ o, o ≠ 95 → M0 o = M o := fun o h => by rw [hM0, zu_o _ _ _ _ h, zu_o _ _ _ _ h]
  have e1 : M0 95 1 = ((0 : Nat) : Int) := by rw [hM0, zu_k _ _ _ _ (by omega), zu_k _ _ _ _ (by omega)]; exact h0.1
  have e2 : M0 95 2 = (pg : Int) := by rw [hM0, zu_k _ _ _ _ (by omega), zu_s]
  have e3 : M0 95 3 = (mem : Int) := by rw [hM0, zu_s]
  refine g_pop C dL_law_38 rfl ?_
  refine g_aload_n C dL_law_39 rfl ?_
  show G X _ 40 _ _
  refine gc_addFile C (by decide) tw_333 (Nat.le_of_ble_eq_true rfl) rfl dL_law_40 0 (by omega) e1 (fun y1 M1 ⟨a0, a1, a2, a3, a4⟩ => ?_)
  refine g_pop C dL_law_43 rfl ?_
  refine g_aload_n C dL_law_44 rfl ?_
  refine gc_addFile C (by decide) tw_333 (Nat.le_of_ble_eq_true rfl) rfl dL_law_45 1 (by omega) (by rw [a2]; rfl) (fun y2 M2 ⟨b0, b1, b2, b3, b4⟩ => ?_)
  refine g_pop C dL_law_48 rfl ?_
  refine g_aload_n C dL_law_49 rfl ?_
  show G X _ 50 _ _
  refine g_iconst C dL_law_50 ?_
  refine gc_cell C (by decide) tw_847 (Nat.le_of_ble_eq_true rfl) rfl dL_law_51 hcell 2 (by omega) (fun v => ?_)
  refine g_bipush C dL_law_54 rfl ?_
  refine gc_L_below C (by decide) tw_843 (Nat.le_of_ble_eq_true rfl) rfl dL_law_56 _ 40 (by omega) (fun q M' ⟨⟨q1, q2⟩, hM'⟩ => ?_)
  replace hM' := hM'.symm
  subst hM'
  obtain ⟨n, hn⟩ : ∃ n : Nat, q = (n : Int) := ⟨q.toNat, by omega⟩
  subst hn
  refine g_istore C dL_law_59 (Nat.le_of_ble_eq_true rfl) ?_
  show G X _ 61 [_, _, _, _, _, _, _, _, _, _, _, _, _, _, _, _, _, _] _
  refine g_iconst C dL_law_61 ?_
  refine g_istore C dL_law_62 (Nat.le_of_ble_eq_true rfl) ?_
  show G X _ 64 [_, _, _, _, _, _, _, _, _, _, _, _, _, _, _, _, _, _] _
  have m1 : M2 95 1 = ((2 : Nat) : Int) := by rw [b2]; rfl
  have m2 : M2 95 2 = (pg : Int) := by rw [b3 2 (by omega), a3 2 (by omega)]; exact e2
  have m3 : M2 95 3 = (mem : Int) := by rw [b3 3 (by omega), a3 3 (by omega)]; exact e3
  have mo : ∀ o, 6 ≤ o → o ≠ 95 → M2 o = M o := fun o c1 c2 => (b4 o (by omega) (by omega) (by omega) c2).trans ((a4 o (by omega) (by omega) (by omega) c2).trans (e0 o c2))
  have m84 : ∀ k, k = 4 ∨ k = 5 → M2 84 k = 0 := fun k hk => by
    rw [mo 84 (by omega) (by omega)]
    rcases hk with rfl | rfl
    · exact h0.2.2.1
    · exact h0.2.2.2.1
  have mp : ∀ o, o = 60 ∨ o = 62 ∨ o = 64 ∨ o = 66 → M2 o 1 = 0 := fun o ho => by
    rw [mo o (by omega) (by omega)]
    rcases ho with rfl | rfl | rfl | rfl
    · exact h0.2.2.2.2.1
    · exact h0.2.2.2.2.2.1
    · exact h0.2.2.2.2.2.2.1
    · exact h0.2.2.2.2.2.2.2
  have k110 : ∀ (L0 : List (Int × Int)) (N : zM) (v5 : Int), L0.length = n → zIn L0 → zRow N 0 L0 → zRow N 1 [] → N 84 0 = 0 → (∀ k, k ≠ 0 → N 84 k = M2 84 k) → (∀ o, o ≠ 0 → o ≠ 1 → o ≠ 2 → o ≠ 84 → N o = M2 o) → G X N 110 [some (.ref b), some (.ref (zA X 95)), some (.int (jI (pg : Int))), some (.int (jI (mem : Int))), some (.int (jI (n : Int))), some (.int (jI v5)), none, none, none, none, none, none, none, none, none, none, none, none] [] := by
    intro L0 N v5 hl0 hb0 r0 r1 h840 h84 hF
    refine g_aload_n C dL_law_110 rfl ?_
    refine g_iconst C dL_law_111 ?_
    refine g_aload_n C dL_law_112 rfl ?_
    refine g_iconst C dL_law_113 ?_
    refine gc_cell C (by decide) tw_847 (Nat.le_of_ble_eq_true rfl) rfl dL_law_114 hcell 3 (by omega) (fun v => ?_)
    refine g_bipush C dL_law_117 rfl ?_
    show G X _ 119 _ _
    refine gc_L_below C (by decide) tw_843 (Nat.le_of_ble_eq_true rfl) rfl dL_law_119 _ 30 (by omega) (fun xa M' ⟨⟨xa1, xa2⟩, hM'⟩ => ?_)
    replace hM' := hM'.symm
    subst hM'
    refine g_aload_n C dL_law_122 rfl ?_
    refine g_iconst C dL_law_123 ?_
    refine gc_cell C (by decide) tw_847 (Nat.le_of_ble_eq_true rfl) rfl dL_law_124 hcell 4 (by omega) (fun v => ?_)
    refine g_bipush C dL_law_127 rfl ?_
    refine gc_L_below C (by decide) tw_843 (Nat.le_of_ble_eq_true rfl) rfl dL_law_129 _ 21 (by omega) (fun xb M' ⟨⟨xb1, xb2⟩, hM'⟩ => ?_)
    replace hM' := hM'.symm
    subst hM'
    show G X _ 132 _ _
    refine g_bipush C dL_law_132 rfl ?_
    refine g_isub C dL_law_134 ?_
    refine g_iconst C dL_law_135 ?_
    refine g_aload_n C dL_law_136 rfl ?_
    refine g_iconst C dL_law_137 ?_
    refine gc_cell C (by decide) tw_847 (Nat.le_of_ble_eq_true rfl) rfl dL_law_138 hcell 5 (by omega) (fun v => ?_)
    show G X _ 141 _ _
    refine g_bipush C dL_law_141 rfl ?_
    refine gc_L_below C (by decide) tw_843 (Nat.le_of_ble_eq_true rfl) rfl dL_law_143 _ 25 (by omega) (fun xc M' ⟨⟨xc1, xc2⟩, hM'⟩ => ?_)
    replace hM' := hM'.symm
    subst hM'
    refine g_iadd C dL_law_146 ?_
    refine g_iconst C dL_law_147 ?_
    refine g_aload_n C dL_law_148 rfl ?_
    refine g_bipush C dL_law_149 rfl ?_
    show G X _ 151 _ _
    refine gc_cell C (by decide) tw_847 (Nat.le_of_ble_eq_true rfl) rfl dL_law_151 hcell 6 (by omega) (fun v => ?_)
    refine g_bipush C dL_law_154 rfl ?_
    refine gc_L_below C (by decide) tw_843 (Nat.le_of_ble_eq_true rfl) rfl dL_law_156 _ 20 (by omega) (fun xd M' ⟨⟨xd1, xd2⟩, hM'⟩ => ?_)
    replace hM' := hM'.symm
    subst hM'
    refine g_iadd C dL_law_159 ?_
    obtain ⟨cnt, hcnt⟩ : ∃ cnt : Nat, (1 : Int) + xd = (cnt : Int) := ⟨(1 + xd).toNat, by omega⟩
    rw [hcnt]
    have e95 := hF 95 (by omega) (by omega) (by omega) (by omega)
    refine gc_putRow C (by decide) tw_403 (Nat.le_of_ble_eq_true rfl) rfl dL_law_160 (c := 2) 1 (by omega) (by omega) xa (xb - 10) (1 + xc) cnt (by omega) (by omega) (by omega) (by simp; omega) (by rw [e95]; exact m1) r1 (by rw [h84 4 (by omega), m84 4 (Or.inl rfl)]; omega) (by rw [h84 5 (by omega), m84 5 (Or.inr rfl)]; omega) (fun y N2 ⟨b1, b2, b3, b4⟩ => ?_)
    obtain ⟨L1, hL1⟩ : ∃ L1, L1 = [] ++ prL xa (xb - 10) (1 + xc) cnt := ⟨_, rfl⟩
    rw [← hL1] at b1
    rw [List.nil_append] at hL1
    have hl1 : L1.length = cnt := by rw [hL1, prL_len]
    have hb1 : zIn L1 := by rw [hL1]; exact prL_in (by omega) _
    have H : lwH n L0 L1 pg mem := ⟨hb0, hb1, hl0, by omega, by omega, by omega, by omega, by omega⟩
    have g95 : N2 95 = M2 95 := (b2 95 (by omega) (by omega) (by omega) (by omega)).trans e95
    have s2 : zSt N2 2 pg mem (lwF L0 L1 pg mem) := ⟨by rw [g95]; exact m1, by rw [g95]; exact m2, by rw [g95]; exact m3, fun f hf => by
      by_cases q : f = 0
      · subst q; exact r0.same (fun o _ _ => b2 o (by omega) (by omega) (by omega) (by omega))
      · obtain rfl : f = 1 := by omega
        exact b1, by omega⟩
    have gP : ∀ o, 60 ≤ o → o < 84 → N2 o = M2 o := fun o h1 h2 => (b2 o (by omega) (by omega) (by omega) (by omega)).trans (hF o (by omega) (by omega) (by omega) (by omega))
    have pl : zPl N2 0 (N2 82 7) [] ([], N2 82 3, N2 82 4, [], []) := ⟨⟨by rw [gP _ (by omega) (by omega)]; exact mp 60 (by omega), Nat.zero_le _, fun i hi => absurd hi (Nat.not_lt_zero _)⟩, ⟨by rw [gP _ (by omega) (by omega)]; exact mp 66 (by omega), Nat.zero_le _, fun i hi => absurd hi (Nat.not_lt_zero _)⟩, rfl, rfl, ⟨by rw [gP _ (by omega) (by omega)]; exact mp 62 (by omega), Nat.zero_le _, fun i hi => absurd hi (Nat.not_lt_zero _)⟩, ⟨by rw [gP _ (by omega) (by omega)]; exact mp 64 (by omega), Nat.zero_le _, fun i hi => absurd hi (Nat.not_lt_zero _)⟩, rfl⟩
    have t0 : N2 84 0 = 0 ∨ N2 84 0 = 1 := by rcases b4 with h | h <;> omega
    refine g_pop C dL_law_163 rfl ?_
    show G X _ 164 _ _
    refine g_aload_n C dL_law_164 rfl ?_
    refine gc_digest C (by decide) tw_825 (Nat.le_of_ble_eq_true rfl) rfl dL_law_165 2 pg mem (N2 95 4) (N2 95 5) (N2 95 6) (by omega) (by omega) (fun f hf => by
      by_cases q : f = 0
      · subst q; exact ⟨hb0, show L0.length ≤ 100 by omega⟩
      · obtain rfl : f = 1 := by omega
        exact ⟨hb1, show L1.length ≤ 100 by omega⟩) rfl s2 pl rfl rfl rfl t0 (fun sm9 N3 ⟨d1, d2⟩ => ?_)
    refine g_lstore C dL_law_168 (Nat.le_of_ble_eq_true rfl) ?_
    show G X _ 170 [_, _, _, _, _, _, _, _, _, _, _, _, _, _, _, _, _, _] _
    refine g_mask [false, true, true, true, true, true, false, false, false, false, false, false, false, false, false, false, false, false] rfl ?_
    show G X _ 170 [_, _, _, _, _, _, _, _, _, _, _, _, _, _, _, _, _, _] _
    exact lw_ways C hend H (s2.same (d2 95 (by omega) (by omega) (by omega) (by omega) (by omega)) (fun o h => d2 o (by omega) (by omega) (by omega) (by omega) (by omega))) (lwD.same ⟨_, _, _, rfl, pl, d1, t0⟩ d2)
  have lp : ∀ (fk : Nat) (k : Nat) (L : List (Int × Int)) (N : zM), 200 - k < fk → k ≤ n → L.length = k → zIn L → zRow N 0 L → zRow N 1 [] → N 84 0 = 0 → (∀ k, k ≠ 0 → N 84 k = M2 84 k) → (∀ o, o ≠ 0 → o ≠ 1 → o ≠ 2 → o ≠ 84 → N o = M2 o) → G X N 64 [some (.ref b), some (.ref (zA X 95)), some (.int (jI (pg : Int))), some (.int (jI (mem : Int))), some (.int (jI (n : Int))), some (.int (jI (k : Int))), none, none, none, none, none, none, none, none, none, none, none, none] [] := by
    intro fk
    induction fk with
    | zero => intro k L N hk; exact absurd hk (Nat.not_lt_zero _)
    | succ fk ih =>
      intro k L N hk k1 hl hb r0 r1 h840 h84 hF
      refine g_iload C dL_law_64 rfl ?_
      refine g_iload C dL_law_66 rfl ?_
      refine g_icmp_ge (tgt := 110) C dL_law_68 rfl (by omega) (by omega) (fun h68 => ?_) (fun h68 => ?_)
      · exact k110 L N (k : Int) (by omega) hb r0 r1 h840 h84 hF
      · refine g_aload_n C dL_law_71 rfl ?_
        refine g_iconst C dL_law_72 ?_
        refine g_aload_n C dL_law_73 rfl ?_
        refine g_iload C dL_law_74 rfl ?_
        refine g_bipush C dL_law_76 rfl ?_
        refine g_irem C dL_law_78 (by omega) (by omega) ?_
        show G X _ 79 _ _
        rw [show (k : Int) % 16 = ((k % 16 : Nat) : Int) by omega]
        refine gc_cell C (by decide) tw_847 (Nat.le_of_ble_eq_true rfl) rfl dL_law_79 hcell (k % 16) (by omega) (fun v => ?_)
        refine g_iload C dL_law_82 rfl ?_
        refine g_bipush C dL_law_84 rfl ?_
        refine g_idiv C dL_law_86 (by omega) (by omega) ?_
        refine g_iconst C dL_law_87 ?_
        refine g_imul C dL_law_88 ?_
        show G X _ 89 _ _
        refine g_ishr C dL_law_89 ?_
        refine g_bipush C dL_law_90 rfl ?_
        refine gc_L_below C (by decide) tw_843 (Nat.le_of_ble_eq_true rfl) rfl dL_law_92 _ 40 (by omega) (fun x M' ⟨⟨x1, x2⟩, hM'⟩ => ?_)
        replace hM' := hM'.symm
        subst hM'
        refine g_bipush C dL_law_95 rfl ?_
        refine g_isub C dL_law_97 ?_
        refine g_iload C dL_law_98 rfl ?_
        show G X _ 100 _ _
        refine gc_put C (by decide) tw_361 (Nat.le_of_ble_eq_true rfl) rfl dL_law_100 (c := 2) 0 (by omega) (by omega) (x - 15) (k : Int) (by omega) (by omega) (by omega) (by rw [hF 95 (by omega) (by omega) (by omega) (by omega)]; exact m1) r0 (by rw [h84 4 (by omega), m84 4 (Or.inl rfl)]; omega) (by rw [h84 5 (by omega), m84 5 (Or.inr rfl)]; omega) (fun y N2 ⟨b0, b1, b2, b3, b4⟩ => ?_)
        refine g_pop C dL_law_103 rfl ?_
        refine g_iinc C dL_law_104 rfl ?_
        show G X _ 107 [_, _, _, _, _, _, _, _, _, _, _, _, _, _, _, _, _, _] _
        refine g_goto (tgt := 64) C dL_law_107 rfl ?_
        show G X _ 64 _ _
        refine ih (k + 1) _ N2 (by omega) (by omega) (by rw [List.length_append, hl]; rfl) (hb.app (by omega) (by omega)) b1 (r1.same (fun o _ _ => b2 o (by omega) (by omega) (by omega) (by omega))) (by rcases b4 with h | h <;> omega) (fun j hj => (b3 j hj).trans (h84 j hj)) (fun o c1 c2 c3 c4 => (b2 o c1 c2 c3 c4).trans (hF o c1 c2 c3 c4))
  exact lp 300 0 [] M2 (by omega) (by omega) rfl zIn.nil (a1.same (fun o _ _ => b4 o (by omega) (by omega) (by omega) (by omega))) b1 (by rw [mo 84 (by omega) (by omega)]; exact h0.2.1) (fun _ _ => rfl) (fun _ _ _ _ _ => rfl)
