/-! the checksum -/
def flL (s : Int64) (L : List Int) : Nat → Int64
  | 0 => s
  | i + 1 => flL s L i * 31 + (jI (nA L i)).toInt64
def flM (s : Int64) (A B : List Int) : Nat → Int64
  | 0 => s
  | i + 1 => (flM s A B i * 31 + (jI (nA A i)).toInt64) * 31 + (jI (nA B i)).toInt64
def fsS (s : Int64) (rs : List Int) (z : zZ) : Int64 := flM (flL (s * 31 + (jI (rs.length : Int)).toInt64) rs rs.length * 31 + (jI (z.2.2.2.2.length : Int)).toInt64) z.2.2.2.1 z.2.2.2.2 z.2.2.2.2.length
def flR (s : Int64) (L : List (Int × Int)) : Nat → Int64
  | 0 => s
  | i + 1 => (flR s L i * 31 + (jI (kA L i)).toInt64) * 31 + (jI (mA L i)).toInt64
def ffS (s : Int64) (L : List (Int × Int)) (pg mem : Nat) : Int64 := flR ((((((s * 31 + (jI (L.length : Int)).toInt64) * 31 + (jI (pgs (L.length : Int) (pg : Int))).toInt64) * 31 + (jI ((if upB L = true then 1 else 0) + (if dnB L = true then 2 else 0))).toInt64) * 31 + (jI (dcL L L.length : Int)).toInt64) * 31 + (jI (csL L false false pg mem)).toInt64) * 31 + (jI (csL L true true pg mem)).toInt64) L L.length
def dgF (s : Int64) (F : Nat → List (Int × Int)) (pg mem : Nat) : Nat → Int64
  | 0 => s
  | i + 1 => ffS (dgF s F pg mem i) (F i) pg mem
def dgS (c pg mem : Nat) (rd wr sp mt : Int) (rs : List Int) (z : zZ) (F : Nat → List (Int × Int)) : Int64 :=
  dgF (fsS (((((58067 : Int64) * 31 + (jI (c : Int)).toInt64) * 31 + (jI rd).toInt64) * 31 + (jI wr).toInt64) * 31 + (jI sp).toInt64) rs z * 31 + (jI mt).toInt64) F pg mem c
/-- what asking changes -/
def zFq (M M' : zM) : Prop := ∀ o, o ≠ 94 → (o < 68 ∨ 76 ≤ o) → o ≠ 78 → o ≠ 79 → o ≠ 83 → M' o = M o
theorem zFq.refl {M : zM} : zFq M M := fun _ _ _ _ _ _ => rfl
theorem zFq.trans {M M1 M2 : zM} (h1 : zFq M M1) (h2 : zFq M1 M2) : zFq M M2 := fun o a b c d e => (h2 o a b c d e).trans (h1 o a b c d e)
theorem zFq.plan {M M' : zM} (h : zFp M M' 1) : zFq M M' := fun o _ b c d e => h o (by omega) c d e
theorem zFq.key {M M' : zM} (h : ∀ o, o ≠ 94 → M' o = M o) : zFq M M' := fun o a _ _ _ _ => h o a
theorem zRow.asked {M M' : zM} {q : Nat} {L : List (Int × Int)} (h : zRow M q L) (hf : zFq M M') (hq : q < 20) : zRow M' q L := h.same (fun o a b => hf o (by omega) (by omega) (by omega) (by omega) (by omega))
theorem zPl.asked {M M' : zM} {pg : Int} {rs : List Int} {z : zZ} (h : zPl M 0 pg rs z) (hf : zFq M M') : zPl M' 0 pg rs z := h.same (by omega) (fun o g => hf o (by omega) (by omega) (by omega) (by omega) (by omega))
set_option maxHeartbeats 4000000 in
set_option maxRecDepth 10000 in
theorem c_fold (l : Launch) (s w : Int64) (M : zM)  : Mt l 1 yX8_fold cX8_fold 4 (some .long) (fun ad => [.long (s), .long (w)]) M (fun _ vv M' => vv = some (.long (s * 31 + w)) ∧ M' = M) := by
  refine Mt.of (fun ad => [some (.long (s)), none, some (.long (w)), none]) (by decide +kernel) (fun _ => rfl) (fun _ => rfl) (fun _ => Nat.le_of_ble_eq_true rfl) fun X hX C hR => ?_
  subst hX
  show G X M 0 [some (.long (s)), none, some (.long (w)), none] []
  refine g_lload_n C dX8_fold_0 rfl ?_
  refine g_ldc2 C tw_833 dX8_fold_1 ?_
  refine g_lmul C dX8_fold_4 ?_
  refine g_lload_n C dX8_fold_5 rfl ?_
  refine g_ladd C dX8_fold_6 ?_
  refine g_lret C hR dX8_fold_7 ?_
  exact ⟨rfl, rfl⟩
theorem gc_fold {X : z_X} {cc : ByteArray} {own : String} {ret : Option FieldType} {dC nC : Nat} {M : zM} {pc : Nat} {lv : List (Option Value)} {st : List Value} (C : Cx cc own ret dC nC X) (hdep : 2 ≤ dC) {idx : Nat} (hl0 : Cond.methodLink own idx yX8_fold ∈ tT) (hcat : (st.map fun v => v.category).sum ≤ 8) (hlen : lv.length = nC) (hdec : decode cc pc = .ok (.invokestatic idx, 3)) (s w : Int64)  (kk : G X M (pc + 3) lv (.long (s * 31 + w) :: st)) : G X M pc lv (.long (w) :: .long (s) :: st) := by
  refine g_callS (k := 2) C (c_fold (zL X) s w M ) mfX8_fold hl0 ⟨rfl, by decide +kernel, by decide +kernel, by decide +kernel⟩ ⟨hdep, by decide⟩ rfl rfl rfl hcat hlen hdec (fun v M' h => ?_)
  obtain ⟨rfl, rfl⟩ := h
  exact kk
set_option maxHeartbeats 4000000 in
set_option maxRecDepth 10000 in
theorem c_foldSort (l : Launch) (s : Int64) {pg : Int} {rs : List Int} {z : zZ} (hl : z.2.2.2.1.length = z.2.2.2.2.length) (M : zM) (h : zPl M 0 pg rs z) : Mt l 2 yX8_foldSort cX8_foldSort 6 (some .long) (fun ad => [.ref (ad (95)), .long (s)]) M (fun _ vv M' => vv = some (.long (fsS s rs z)) ∧ M' = M) := by
  refine Mt.of (fun ad => [some (.ref (ad (95))), some (.long (s)), none, none, none, none]) (by decide +kernel) (fun _ => rfl) (fun _ => rfl) (fun _ => Nat.le_of_ble_eq_true rfl) fun X hX C hR => ?_
  subst hX
  show G X M 0 [some (.ref ((zA X) (95))), some (.long (s)), none, none, none, none] []
  have g1 := h.1.2.1
  have g2 := h.2.2.2.2.2.1.2.1
  have lp2 : ∀ (fk : Nat) (i : Nat), 200 - i < fk → i ≤ z.2.2.2.2.length → G X M 77 [some (.ref (zA X 95)), some (.long s), none, some (.long (flM (flL (s * 31 + (jI (rs.length : Int)).toInt64) rs rs.length * 31 + (jI (z.2.2.2.2.length : Int)).toInt64) z.2.2.2.1 z.2.2.2.2 i)), none, some (.int (jI (i : Int)))] [] := by
    intro fk
    induction fk with
    | zero => intro i hk; exact absurd hk (Nat.not_lt_zero _)
    | succ fk ih =>
      intro i hk i1
      refine g_iload C dX8_foldSort_77 rfl ?_
      refine g_aload_n C dX8_foldSort_79 rfl ?_
      refine gf_Ms_latest C tw_221 dX8_foldSort_80 ?_
      refine gf_Plan_mergeSizes C (by omega) tw_65 dX8_foldSort_83 ?_
      refine gc_Num_count C (by decide) tw_624 (Nat.le_of_ble_eq_true rfl) rfl dX8_foldSort_86 (r := 4 * 0 + 2) (by omega) h.2.2.2.2.2.1 (?_)
      refine g_icmp_ge (tgt := 134) C dX8_foldSort_89 rfl (by have := h.2.2.2.2.2.1.2.1; omega) (by have := h.2.2.2.2.2.1.2.1; omega) (fun h89 => ?_) (fun h89 => ?_)
      · refine g_lload_n C dX8_foldSort_134 rfl ?_
        refine g_lret C hR dX8_foldSort_135 ?_
        exact ⟨by rw [show i = z.2.2.2.2.length by omega]; rfl, rfl⟩
      · refine g_lload_n C dX8_foldSort_92 rfl ?_
        refine g_aload_n C dX8_foldSort_93 rfl ?_
        refine gf_Ms_latest C tw_221 dX8_foldSort_94 ?_
        refine gf_Plan_mergeRuns C (by omega) tw_63 dX8_foldSort_97 ?_
        refine g_iload C dX8_foldSort_100 rfl ?_
        refine gc_Num_valueAt C (by decide) tw_634 (Nat.le_of_ble_eq_true rfl) rfl dX8_foldSort_102 (r := 4 * 0 + 1) (by omega) i (by omega) h.2.2.2.2.1 (?_)
        show G X _ 105 _ _
        refine g_i2l C dX8_foldSort_105 ?_
        refine gc_fold C (by decide) tw_830 (Nat.le_of_ble_eq_true rfl) rfl dX8_foldSort_106 _ _ (?_)
        refine g_lstore_n C dX8_foldSort_109 (Nat.le_of_ble_eq_true rfl) ?_
        show G X _ 110 [_, _, _, _, _, _] _
        refine g_lload_n C dX8_foldSort_110 rfl ?_
        refine g_aload_n C dX8_foldSort_111 rfl ?_
        refine gf_Ms_latest C tw_221 dX8_foldSort_112 ?_
        refine gf_Plan_mergeSizes C (by omega) tw_65 dX8_foldSort_115 ?_
        refine g_iload C dX8_foldSort_118 rfl ?_
        refine gc_Num_valueAt C (by decide) tw_634 (Nat.le_of_ble_eq_true rfl) rfl dX8_foldSort_120 (r := 4 * 0 + 2) (by omega) i (by omega) h.2.2.2.2.2.1 (?_)
        show G X _ 123 _ _
        refine g_i2l C dX8_foldSort_123 ?_
        refine gc_fold C (by decide) tw_830 (Nat.le_of_ble_eq_true rfl) rfl dX8_foldSort_124 _ _ (?_)
        refine g_lstore_n C dX8_foldSort_127 (Nat.le_of_ble_eq_true rfl) ?_
        show G X _ 128 [_, _, _, _, _, _] _
        refine g_iinc C dX8_foldSort_128 rfl ?_
        show G X _ 131 [_, _, _, _, _, _] _
        refine g_goto (tgt := 77) C dX8_foldSort_131 rfl ?_
        show G X _ 77 _ _
        exact ih (i + 1) (by omega) (by omega)
  have hb58 : ∀ (y : Option Value), G X M 58 [some (.ref (zA X 95)), some (.long s), none, some (.long (flL (s * 31 + (jI (rs.length : Int)).toInt64) rs rs.length)), none, y] [] := by
    intro y
    refine g_lload_n C dX8_foldSort_58 rfl ?_
    refine g_aload_n C dX8_foldSort_59 rfl ?_
    refine gf_Ms_latest C tw_221 dX8_foldSort_60 ?_
    refine gf_Plan_mergeSizes C (by omega) tw_65 dX8_foldSort_63 ?_
    refine gc_Num_count C (by decide) tw_624 (Nat.le_of_ble_eq_true rfl) rfl dX8_foldSort_66 (r := 4 * 0 + 2) (by omega) h.2.2.2.2.2.1 (?_)
    refine g_i2l C dX8_foldSort_69 ?_
    show G X _ 70 _ _
    refine gc_fold C (by decide) tw_830 (Nat.le_of_ble_eq_true rfl) rfl dX8_foldSort_70 _ _ (?_)
    refine g_lstore_n C dX8_foldSort_73 (Nat.le_of_ble_eq_true rfl) ?_
    show G X _ 74 [_, _, _, _, _, _] _
    refine g_iconst C dX8_foldSort_74 ?_
    refine g_istore C dX8_foldSort_75 (Nat.le_of_ble_eq_true rfl) ?_
    show G X _ 77 [_, _, _, _, _, _] _
    exact lp2 300 0 (by omega) (Nat.zero_le _)
  have lp1 : ∀ (fk : Nat) (i : Nat), 200 - i < fk → i ≤ rs.length → G X M 19 [some (.ref (zA X 95)), some (.long s), none, some (.long (flL (s * 31 + (jI (rs.length : Int)).toInt64) rs i)), none, some (.int (jI (i : Int)))] [] := by
    intro fk
    induction fk with
    | zero => intro i hk; exact absurd hk (Nat.not_lt_zero _)
    | succ fk ih =>
      intro i hk i1
      refine g_iload C dX8_foldSort_19 rfl ?_
      refine g_aload_n C dX8_foldSort_21 rfl ?_
      refine gf_Ms_latest C tw_221 dX8_foldSort_22 ?_
      refine gf_Plan_runSizes C (by omega) tw_61 dX8_foldSort_25 ?_
      refine gc_Num_count C (by decide) tw_624 (Nat.le_of_ble_eq_true rfl) rfl dX8_foldSort_28 (r := 4 * 0) (by omega) h.1 (?_)
      refine g_icmp_ge (tgt := 58) C dX8_foldSort_31 rfl (by have := h.1.2.1; omega) (by have := h.1.2.1; omega) (fun h31 => ?_) (fun h31 => ?_)
      · obtain rfl : i = rs.length := by omega
        exact hb58 _
      · refine g_lload_n C dX8_foldSort_34 rfl ?_
        refine g_aload_n C dX8_foldSort_35 rfl ?_
        refine gf_Ms_latest C tw_221 dX8_foldSort_36 ?_
        refine gf_Plan_runSizes C (by omega) tw_61 dX8_foldSort_39 ?_
        refine g_iload C dX8_foldSort_42 rfl ?_
        refine gc_Num_valueAt C (by decide) tw_634 (Nat.le_of_ble_eq_true rfl) rfl dX8_foldSort_44 (r := 4 * 0) (by omega) i (by omega) h.1 (?_)
        show G X _ 47 _ _
        refine g_i2l C dX8_foldSort_47 ?_
        refine gc_fold C (by decide) tw_830 (Nat.le_of_ble_eq_true rfl) rfl dX8_foldSort_48 _ _ (?_)
        refine g_lstore_n C dX8_foldSort_51 (Nat.le_of_ble_eq_true rfl) ?_
        show G X _ 52 [_, _, _, _, _, _] _
        refine g_iinc C dX8_foldSort_52 rfl ?_
        show G X _ 55 [_, _, _, _, _, _] _
        refine g_goto (tgt := 19) C dX8_foldSort_55 rfl ?_
        show G X _ 19 _ _
        exact ih (i + 1) (by omega) (by omega)
  refine g_lload_n C dX8_foldSort_0 rfl ?_
  refine g_aload_n C dX8_foldSort_1 rfl ?_
  refine gf_Ms_latest C tw_221 dX8_foldSort_2 ?_
  refine gf_Plan_runSizes C (by omega) tw_61 dX8_foldSort_5 ?_
  refine gc_Num_count C (by decide) tw_624 (Nat.le_of_ble_eq_true rfl) rfl dX8_foldSort_8 (r := 4 * 0) (by omega) h.1 (?_)
  refine g_i2l C dX8_foldSort_11 ?_
  show G X _ 12 _ _
  refine gc_fold C (by decide) tw_830 (Nat.le_of_ble_eq_true rfl) rfl dX8_foldSort_12 _ _ (?_)
  refine g_lstore_n C dX8_foldSort_15 (Nat.le_of_ble_eq_true rfl) ?_
  show G X _ 16 [_, _, _, _, _, _] _
  refine g_iconst C dX8_foldSort_16 ?_
  refine g_istore C dX8_foldSort_17 (Nat.le_of_ble_eq_true rfl) ?_
  show G X _ 19 [_, _, _, _, _, _] _
  exact lp1 300 0 (by omega) (Nat.zero_le _)
theorem gc_foldSort {X : z_X} {cc : ByteArray} {own : String} {ret : Option FieldType} {dC nC : Nat} {M : zM} {pc : Nat} {lv : List (Option Value)} {st : List Value} (C : Cx cc own ret dC nC X) (hdep : 3 ≤ dC) {idx : Nat} (hl0 : Cond.methodLink own idx yX8_foldSort ∈ tT) (hcat : (st.map fun v => v.category).sum ≤ 8) (hlen : lv.length = nC) (hdec : decode cc pc = .ok (.invokevirtual idx, 3)) (s : Int64) {pg : Int} {rs : List Int} {z : zZ} (hl : z.2.2.2.1.length = z.2.2.2.2.length) (h : zPl M 0 pg rs z) (kk : G X M (pc + 3) lv (.long (fsS s rs z) :: st)) : G X M pc lv (.long (s) :: .ref (zA X (95)) :: st) := by
  refine g_callV (k := 1) (o := 95) C (c_foldSort (zL X) s hl M h) mfX8_foldSort hl0 ⟨rfl, by decide +kernel, by decide +kernel, by decide +kernel⟩ ⟨hdep, by decide⟩ (by omega) (fun _ _ _ _ => ze_ms) rfl rfl rfl rfl hcat hlen hdec (fun v M' h => ?_)
  obtain ⟨rfl, rfl⟩ := h
  exact kk
set_option maxHeartbeats 4000000 in
set_option maxRecDepth 10000 in
theorem c_foldFile (l : Launch) (s : Int64) {q : Nat} (hq : q < 12) {L : List (Int × Int)} (pg mem : Nat) (hpg : 1 ≤ pg ∧ pg ≤ 100) (hm : 3 ≤ mem ∧ mem ≤ 12) (hb : zIn L) (hn : L.length ≤ 100) (M : zM) (hp : M 95 2 = (pg : Int)) (hmem : M 95 3 = (mem : Int)) (hL : zRow M q L) : Mt l 7 yX8_foldFile cX8_foldFile 7 (some .long) (fun ad => [.ref (ad (95)), .long (s), .ref (ad (3 * q))]) M (fun _ vv M' => ∃ x : Int64, vv = some (.long x) ∧ (x = ffS s L pg mem ∧ zFq M M')) := by
  refine Mt.of (fun ad => [some (.ref (ad (95))), some (.long (s)), none, some (.ref (ad (3 * q))), none, none, none]) (by decide +kernel) (fun _ => rfl) (fun _ => rfl) (fun _ => Nat.le_of_ble_eq_true rfl) fun X hX C hR => ?_
  subst hX
  show G X M 0 [some (.ref ((zA X) (95))), some (.long (s)), none, some (.ref ((zA X) (3 * q))), none, none, none] []
  have lp : ∀ (fk : Nat) (i : Nat) (N : zM), 200 - i < fk → i ≤ L.length → zRow N q L → zFq M N → G X N 96 [some (.ref (zA X 95)), some (.long s), none, some (.ref (zA X (3 * q))), some (.long (flR ((((((s * 31 + (jI (L.length : Int)).toInt64) * 31 + (jI (pgs (L.length : Int) (pg : Int))).toInt64) * 31 + (jI ((if upB L = true then 1 else 0) + (if dnB L = true then 2 else 0))).toInt64) * 31 + (jI (dcL L L.length : Int)).toInt64) * 31 + (jI (csL L false false pg mem)).toInt64) * 31 + (jI (csL L true true pg mem)).toInt64) L i)), none, some (.int (jI (i : Int)))] [] := by
    intro fk
    induction fk with
    | zero => intro i N hk; exact absurd hk (Nat.not_lt_zero _)
    | succ fk ih =>
      intro i N hk i1 hQ hF
      refine g_iload C dX8_foldFile_96 rfl ?_
      refine g_aload_n C dX8_foldFile_98 rfl ?_
      refine gc_Row_count C (by decide) tw_390 (Nat.le_of_ble_eq_true rfl) rfl dX8_foldFile_99 (by omega) hQ (?_)
      refine g_icmp_ge (tgt := 139) C dX8_foldFile_102 rfl (by omega) (by omega) (fun h102 => ?_) (fun h102 => ?_)
      · refine g_lload C dX8_foldFile_139 rfl ?_
        refine g_lret C hR dX8_foldFile_141 ?_
        exact ⟨_, rfl, by rw [show i = L.length by omega]; rfl, hF⟩
      · refine g_lload C dX8_foldFile_105 rfl ?_
        refine g_aload_n C dX8_foldFile_107 rfl ?_
        refine g_iload C dX8_foldFile_108 rfl ?_
        refine gc_Row_keyAt C (by decide) tw_431 (Nat.le_of_ble_eq_true rfl) rfl dX8_foldFile_110 (by omega) i (by omega) hQ (?_)
        refine g_i2l C dX8_foldFile_113 ?_
        refine gc_fold C (by decide) tw_830 (Nat.le_of_ble_eq_true rfl) rfl dX8_foldFile_114 _ _ (?_)
        show G X _ 117 _ _
        refine g_lstore C dX8_foldFile_117 (Nat.le_of_ble_eq_true rfl) ?_
        show G X _ 119 [_, _, _, _, _, _, _] _
        refine g_lload C dX8_foldFile_119 rfl ?_
        refine g_aload_n C dX8_foldFile_121 rfl ?_
        refine g_iload C dX8_foldFile_122 rfl ?_
        refine gc_Row_markAt C (by decide) tw_427 (Nat.le_of_ble_eq_true rfl) rfl dX8_foldFile_124 (by omega) i (by omega) hQ (?_)
        refine g_i2l C dX8_foldFile_127 ?_
        refine gc_fold C (by decide) tw_830 (Nat.le_of_ble_eq_true rfl) rfl dX8_foldFile_128 _ _ (?_)
        show G X _ 131 _ _
        refine g_lstore C dX8_foldFile_131 (Nat.le_of_ble_eq_true rfl) ?_
        show G X _ 133 [_, _, _, _, _, _, _] _
        refine g_iinc C dX8_foldFile_133 rfl ?_
        show G X _ 136 [_, _, _, _, _, _, _] _
        refine g_goto (tgt := 96) C dX8_foldFile_136 rfl ?_
        show G X _ 96 _ _
        exact ih (i + 1) N (by omega) (by omega) hQ hF
  refine g_lload_n C dX8_foldFile_0 rfl ?_
  refine g_aload_n C dX8_foldFile_1 rfl ?_
  refine gc_Row_count C (by decide) tw_390 (Nat.le_of_ble_eq_true rfl) rfl dX8_foldFile_2 (by omega) hL (?_)
  refine g_i2l C dX8_foldFile_5 ?_
  refine gc_fold C (by decide) tw_830 (Nat.le_of_ble_eq_true rfl) rfl dX8_foldFile_6 _ _ (?_)
  refine g_lstore C dX8_foldFile_9 (Nat.le_of_ble_eq_true rfl) ?_
  show G X _ 11 [_, _, _, _, _, _, _] _
  refine g_lload C dX8_foldFile_11 rfl ?_
  refine g_aload_n C dX8_foldFile_13 rfl ?_
  refine gc_Row_count C (by decide) tw_390 (Nat.le_of_ble_eq_true rfl) rfl dX8_foldFile_14 (by omega) hL (?_)
  refine g_aload_n C dX8_foldFile_17 rfl ?_
  refine gf_Ms_page C tw_216 dX8_foldFile_18 ?_
  rw [hp]
  refine gc_pagesFor C (by decide) tw_722 (Nat.le_of_ble_eq_true rfl) rfl dX8_foldFile_21 _ _ (by omega) (by omega) (?_)
  show G X _ 24 _ _
  refine g_i2l C dX8_foldFile_24 ?_
  refine gc_fold C (by decide) tw_830 (Nat.le_of_ble_eq_true rfl) rfl dX8_foldFile_25 _ _ (?_)
  refine g_lstore C dX8_foldFile_28 (Nat.le_of_ble_eq_true rfl) ?_
  show G X _ 30 [_, _, _, _, _, _, _] _
  refine g_lload C dX8_foldFile_30 rfl ?_
  refine g_aload_n C dX8_foldFile_32 rfl ?_
  refine gc_orderOf C (by decide) tw_439 (Nat.le_of_ble_eq_true rfl) rfl dX8_foldFile_33 (by omega) hL hb (?_)
  refine g_i2l C dX8_foldFile_36 ?_
  refine gc_fold C (by decide) tw_830 (Nat.le_of_ble_eq_true rfl) rfl dX8_foldFile_37 _ _ (?_)
  refine g_lstore C dX8_foldFile_40 (Nat.le_of_ble_eq_true rfl) ?_
  show G X _ 42 [_, _, _, _, _, _, _] _
  refine g_lload C dX8_foldFile_42 rfl ?_
  refine g_aload_n C dX8_foldFile_44 rfl ?_
  refine g_aload_n C dX8_foldFile_45 rfl ?_
  refine gc_keysIn C (by decide) tw_454 (Nat.le_of_ble_eq_true rfl) rfl dX8_foldFile_46 (by omega) hL hb (fun x1 N1 ⟨a1, a2⟩ => ?_)
  rw [a1]
  have f1 : zFq M N1 := zFq.key a2
  have q1 := hL.asked f1 (by omega)
  refine g_i2l C dX8_foldFile_49 ?_
  refine gc_fold C (by decide) tw_830 (Nat.le_of_ble_eq_true rfl) rfl dX8_foldFile_50 _ _ (?_)
  show G X _ 53 _ _
  refine g_lstore C dX8_foldFile_53 (Nat.le_of_ble_eq_true rfl) ?_
  show G X _ 55 [_, _, _, _, _, _, _] _
  refine g_lload C dX8_foldFile_55 rfl ?_
  refine g_aload_n C dX8_foldFile_57 rfl ?_
  refine g_aload_n C dX8_foldFile_58 rfl ?_
  refine g_iconst C dX8_foldFile_59 ?_
  refine g_iconst C dX8_foldFile_60 ?_
  refine g_aload_n C dX8_foldFile_61 rfl ?_
  show G X _ 62 _ _
  refine gf_Ms_memory C tw_217 dX8_foldFile_62 ?_
  rw [f1 95 (by omega) (by omega) (by omega) (by omega) (by omega), hmem]
  refine gc_costOf C (by decide) tw_804 (Nat.le_of_ble_eq_true rfl) rfl dX8_foldFile_65 (by omega) false false pg mem hpg hm hb hn (by rw [f1 95 (by omega) (by omega) (by omega) (by omega) (by omega)]; exact hp) q1 (fun x2 N2 ⟨b1, b2⟩ => ?_)
  rw [b1]
  have f2 : zFq M N2 := f1.trans (zFq.plan b2)
  have q2 := hL.asked f2 (by omega)
  refine g_i2l C dX8_foldFile_68 ?_
  refine gc_fold C (by decide) tw_830 (Nat.le_of_ble_eq_true rfl) rfl dX8_foldFile_69 _ _ (?_)
  refine g_lstore C dX8_foldFile_72 (Nat.le_of_ble_eq_true rfl) ?_
  show G X _ 74 [_, _, _, _, _, _, _] _
  refine g_lload C dX8_foldFile_74 rfl ?_
  refine g_aload_n C dX8_foldFile_76 rfl ?_
  refine g_aload_n C dX8_foldFile_77 rfl ?_
  refine g_iconst C dX8_foldFile_78 ?_
  refine g_iconst C dX8_foldFile_79 ?_
  refine g_aload_n C dX8_foldFile_80 rfl ?_
  show G X _ 81 _ _
  refine gf_Ms_memory C tw_217 dX8_foldFile_81 ?_
  rw [f2 95 (by omega) (by omega) (by omega) (by omega) (by omega), hmem]
  refine gc_costOf C (by decide) tw_804 (Nat.le_of_ble_eq_true rfl) rfl dX8_foldFile_84 (by omega) true true pg mem hpg hm hb hn (by rw [f2 95 (by omega) (by omega) (by omega) (by omega) (by omega)]; exact hp) q2 (fun x3 N3 ⟨c1, c2⟩ => ?_)
  rw [c1]
  have f3 : zFq M N3 := f2.trans (zFq.plan c2)
  have q3 := hL.asked f3 (by omega)
  refine g_i2l C dX8_foldFile_87 ?_
  refine gc_fold C (by decide) tw_830 (Nat.le_of_ble_eq_true rfl) rfl dX8_foldFile_88 _ _ (?_)
  refine g_lstore C dX8_foldFile_91 (Nat.le_of_ble_eq_true rfl) ?_
  show G X _ 93 [_, _, _, _, _, _, _] _
  refine g_iconst C dX8_foldFile_93 ?_
  refine g_istore C dX8_foldFile_94 (Nat.le_of_ble_eq_true rfl) ?_
  show G X _ 96 [_, _, _, _, _, _, _] _
  exact lp 300 0 N3 (by omega) (Nat.zero_le _) q3 f3
theorem gc_foldFile {X : z_X} {cc : ByteArray} {own : String} {ret : Option FieldType} {dC nC : Nat} {M : zM} {pc : Nat} {lv : List (Option Value)} {st : List Value} (C : Cx cc own ret dC nC X) (hdep : 8 ≤ dC) {idx : Nat} (hl0 : Cond.methodLink own idx yX8_foldFile ∈ tT) (hcat : (st.map fun v => v.category).sum ≤ 8) (hlen : lv.length = nC) (hdec : decode cc pc = .ok (.invokevirtual idx, 3)) (s : Int64) {q : Nat} (hq : q < 12) {L : List (Int × Int)} (pg mem : Nat) (hpg : 1 ≤ pg ∧ pg ≤ 100) (hm : 3 ≤ mem ∧ mem ≤ 12) (hb : zIn L) (hn : L.length ≤ 100) (hp : M 95 2 = (pg : Int)) (hmem : M 95 3 = (mem : Int)) (hL : zRow M q L) (kk : ∀ (x : Int64) (M' : zM), (x = ffS s L pg mem ∧ zFq M M') → G X M' (pc + 3) lv (.long x :: st)) : G X M pc lv (.ref (zA X (3 * q)) :: .long (s) :: .ref (zA X (95)) :: st) := by
  refine g_callV (k := 2) (o := 95) C (c_foldFile (zL X) s hq pg mem hpg hm hb hn M hp hmem hL) mfX8_foldFile hl0 ⟨rfl, by decide +kernel, by decide +kernel, by decide +kernel⟩ ⟨hdep, by decide⟩ (by omega) (fun _ _ _ _ => ze_ms) rfl rfl rfl rfl hcat hlen hdec (fun v M' h => ?_)
  obtain ⟨x, rfl, h⟩ := h
  exact kk x M' h
set_option maxHeartbeats 4000000 in
set_option maxRecDepth 10000 in
theorem c_digest (l : Launch) (c pg mem : Nat) (rd wr sp : Int) {p9 : Int} {rs : List Int} {z : zZ} {F : Nat → List (Int × Int)} (hpg : 1 ≤ pg ∧ pg ≤ 100) (hm : 3 ≤ mem ∧ mem ≤ 12) (hF : ∀ f, f < c → zIn (F f) ∧ (F f).length ≤ 100) (hl : z.2.2.2.1.length = z.2.2.2.2.length) (M : zM) (h : zSt M c pg mem F) (hz : zPl M 0 p9 rs z) (h4 : M 95 4 = rd) (h5 : M 95 5 = wr) (h6 : M 95 6 = sp) (ht : M 84 0 = 0 ∨ M 84 0 = 1) : Mt l 8 yX8_digest cX8_digest 4 (some .long) (fun ad => [.ref (ad (95))]) M (fun _ vv M' => ∃ x : Int64, vv = some (.long x) ∧ (x = dgS c pg mem rd wr sp (if M 84 0 = 0 then 0 else M 84 3) rs z F ∧ zFq M M')) := by
  refine Mt.of (fun ad => [some (.ref (ad (95))), none, none, none]) (by decide +kernel) (fun _ => rfl) (fun _ => rfl) (fun _ => Nat.le_of_ble_eq_true rfl) fun X hX C hR => ?_
  subst hX
  show G X M 0 [some (.ref ((zA X) (95))), none, none, none] []
  have lp : ∀ (fk : Nat) (i : Nat) (N : zM), 200 - i < fk → i ≤ c → zFq M N → G X N 60 [some (.ref (zA X 95)), some (.long (dgF (fsS (((((58067 : Int64) * 31 + (jI (c : Int)).toInt64) * 31 + (jI rd).toInt64) * 31 + (jI wr).toInt64) * 31 + (jI sp).toInt64) rs z * 31 + (jI (if M 84 0 = 0 then 0 else M 84 3)).toInt64) F pg mem i)), none, some (.int (jI (i : Int)))] [] := by
    intro fk
    induction fk with
    | zero => intro i N hk; exact absurd hk (Nat.not_lt_zero _)
    | succ fk ih =>
      intro i N hk i1 hQ
      have e95 := hQ 95 (by omega) (by omega) (by omega) (by omega) (by omega)
      have hc := h.2.2.2.2
      refine g_iload_n C dX8_digest_60 rfl ?_
      refine g_aload_n C dX8_digest_61 rfl ?_
      refine gf_Ms_fileCount C tw_215 dX8_digest_62 ?_
      rw [e95, h.1]
      refine g_icmp_ge (tgt := 86) C dX8_digest_65 rfl (by omega) (by omega) (fun h65 => ?_) (fun h65 => ?_)
      · refine g_lload_n C dX8_digest_86 rfl ?_
        refine g_lret C hR dX8_digest_87 ?_
        exact ⟨_, rfl, by rw [show i = c by omega]; rfl, hQ⟩
      · refine g_aload_n C dX8_digest_68 rfl ?_
        refine g_lload_n C dX8_digest_69 rfl ?_
        refine g_aload_n C dX8_digest_70 rfl ?_
        refine gf_Ms_files C tw_214 dX8_digest_71 ?_
        refine g_iload_n C dX8_digest_74 rfl ?_
        refine ga_files C _ (by omega) rfl dX8_digest_75 ?_
        show G X _ 76 _ _
        refine gc_foldFile C (by decide) tw_839 (Nat.le_of_ble_eq_true rfl) rfl dX8_digest_76 _ (by omega) pg mem hpg hm (hF i (by omega)).1 (hF i (by omega)).2 (by rw [e95]; exact h.2.1) (by rw [e95]; exact h.2.2.1) ((h.2.2.2.1 i (by omega)).asked hQ (by omega)) (fun x N2 ⟨n1, n2⟩ => ?_)
        rw [n1]
        refine g_lstore_n C dX8_digest_79 (Nat.le_of_ble_eq_true rfl) ?_
        show G X _ 80 [_, _, _, _] _
        refine g_iinc C dX8_digest_80 rfl ?_
        show G X _ 83 [_, _, _, _] _
        refine g_goto (tgt := 60) C dX8_digest_83 rfl ?_
        show G X _ 60 _ _
        exact ih (i + 1) N2 (by omega) (by omega) (hQ.trans n2)
  refine g_ldc2 C tw_829 dX8_digest_0 ?_
  refine g_aload_n C dX8_digest_3 rfl ?_
  refine gf_Ms_fileCount C tw_215 dX8_digest_4 ?_
  rw [h.1]
  refine g_i2l C dX8_digest_7 ?_
  refine gc_fold C (by decide) tw_830 (Nat.le_of_ble_eq_true rfl) rfl dX8_digest_8 _ _ (?_)
  refine g_lstore_n C dX8_digest_11 (Nat.le_of_ble_eq_true rfl) ?_
  show G X _ 12 [_, _, _, _] _
  refine g_lload_n C dX8_digest_12 rfl ?_
  refine g_aload_n C dX8_digest_13 rfl ?_
  refine gf_Ms_readPages C tw_218 dX8_digest_14 ?_
  rw [h4]
  refine g_i2l C dX8_digest_17 ?_
  refine gc_fold C (by decide) tw_830 (Nat.le_of_ble_eq_true rfl) rfl dX8_digest_18 _ _ (?_)
  refine g_lstore_n C dX8_digest_21 (Nat.le_of_ble_eq_true rfl) ?_
  show G X _ 22 [_, _, _, _] _
  refine g_lload_n C dX8_digest_22 rfl ?_
  refine g_aload_n C dX8_digest_23 rfl ?_
  refine gf_Ms_writtenPages C tw_219 dX8_digest_24 ?_
  rw [h5]
  refine g_i2l C dX8_digest_27 ?_
  refine gc_fold C (by decide) tw_830 (Nat.le_of_ble_eq_true rfl) rfl dX8_digest_28 _ _ (?_)
  refine g_lstore_n C dX8_digest_31 (Nat.le_of_ble_eq_true rfl) ?_
  show G X _ 32 [_, _, _, _] _
  refine g_lload_n C dX8_digest_32 rfl ?_
  refine g_aload_n C dX8_digest_33 rfl ?_
  refine gf_Ms_spiltPages C tw_220 dX8_digest_34 ?_
  rw [h6]
  refine g_i2l C dX8_digest_37 ?_
  refine gc_fold C (by decide) tw_830 (Nat.le_of_ble_eq_true rfl) rfl dX8_digest_38 _ _ (?_)
  refine g_lstore_n C dX8_digest_41 (Nat.le_of_ble_eq_true rfl) ?_
  show G X _ 42 [_, _, _, _] _
  refine g_aload_n C dX8_digest_42 rfl ?_
  refine g_lload_n C dX8_digest_43 rfl ?_
  refine gc_foldSort C (by decide) tw_834 (Nat.le_of_ble_eq_true rfl) rfl dX8_digest_44 _ hl hz (?_)
  refine g_lstore_n C dX8_digest_47 (Nat.le_of_ble_eq_true rfl) ?_
  show G X _ 48 [_, _, _, _] _
  refine g_lload_n C dX8_digest_48 rfl ?_
  refine g_aload_n C dX8_digest_49 rfl ?_
  refine gc_matches C (by decide) tw_838 (Nat.le_of_ble_eq_true rfl) rfl dX8_digest_50 ht (?_)
  refine g_i2l C dX8_digest_53 ?_
  refine gc_fold C (by decide) tw_830 (Nat.le_of_ble_eq_true rfl) rfl dX8_digest_54 _ _ (?_)
  refine g_lstore_n C dX8_digest_57 (Nat.le_of_ble_eq_true rfl) ?_
  show G X _ 58 [_, _, _, _] _
  refine g_iconst C dX8_digest_58 ?_
  refine g_istore_n C dX8_digest_59 (Nat.le_of_ble_eq_true rfl) ?_
  show G X _ 60 [_, _, _, _] _
  exact lp 300 0 M (by omega) (Nat.zero_le _) zFq.refl
theorem gc_digest {X : z_X} {cc : ByteArray} {own : String} {ret : Option FieldType} {dC nC : Nat} {M : zM} {pc : Nat} {lv : List (Option Value)} {st : List Value} (C : Cx cc own ret dC nC X) (hdep : 9 ≤ dC) {idx : Nat} (hl0 : Cond.methodLink own idx yX8_digest ∈ tT) (hcat : (st.map fun v => v.category).sum ≤ 8) (hlen : lv.length = nC) (hdec : decode cc pc = .ok (.invokevirtual idx, 3)) (c pg mem : Nat) (rd wr sp : Int) {p9 : Int} {rs : List Int} {z : zZ} {F : Nat → List (Int × Int)} (hpg : 1 ≤ pg ∧ pg ≤ 100) (hm : 3 ≤ mem ∧ mem ≤ 12) (hF : ∀ f, f < c → zIn (F f) ∧ (F f).length ≤ 100) (hl : z.2.2.2.1.length = z.2.2.2.2.length) (h : zSt M c pg mem F) (hz : zPl M 0 p9 rs z) (h4 : M 95 4 = rd) (h5 : M 95 5 = wr) (h6 : M 95 6 = sp) (ht : M 84 0 = 0 ∨ M 84 0 = 1) (kk : ∀ (x : Int64) (M' : zM), (x = dgS c pg mem rd wr sp (if M 84 0 = 0 then 0 else M 84 3) rs z F ∧ zFq M M') → G X M' (pc + 3) lv (.long x :: st)) : G X M pc lv (.ref (zA X (95)) :: st) := by
  refine g_callV (k := 0) (o := 95) C (c_digest (zL X) c pg mem rd wr sp hpg hm hF hl M h hz h4 h5 h6 ht) mfX8_digest hl0 ⟨rfl, by decide +kernel, by decide +kernel, by decide +kernel⟩ ⟨hdep, by decide⟩ (by omega) (fun _ _ _ _ => ze_ms) rfl rfl rfl rfl hcat hlen hdec (fun v M' h => ?_)
  obtain ⟨x, rfl, h⟩ := h
  exact kk x M' h
