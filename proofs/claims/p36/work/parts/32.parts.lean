/-! splitting: the methods -/
set_option maxHeartbeats 4000000 in
set_option maxRecDepth 10000 in
theorem c_pairByParts (l : Launch) (pg mem : Nat) (hpg : 1 ≤ pg ∧ pg ≤ 100) (hm : 3 ≤ mem ∧ mem ≤ 12) {r q : Nat} (hr : r < 20) (hq : q < 20) (hr12 : r ≠ 12) (hq12 : q ≠ 12) {a b : List (Int × Int)} (hba : zIn a) (hbb : zIn b) (s0 : Int × List (Int × Int)) (hs : (pbS a b pg ((mem - 2) * pg) 200 0 s0).2.length ≤ 120) (M : zM) (hp : M 90 0 = (pg : Int)) (hmem : M 90 1 = (mem : Int)) (hA : zRow M r a) (hB : zRow M q b) (hL : zOut M s0.2) (h2 : M 89 2 = s0.1) : Mt l 4 yX8_pairByParts cX8_pairByParts 9 none (fun ad => [.ref (ad (90)), .ref (ad (89)), .ref (ad (3 * r)), .ref (ad (3 * q))]) M (fun _ vv M' => vv = none ∧ (zOut M' (pbS a b pg ((mem - 2) * pg) 200 0 s0).2 ∧ M' 89 2 = (pbS a b pg ((mem - 2) * pg) 200 0 s0).1 ∧ M' 89 3 = M 89 3 ∧ ∀ o, o ≠ 36 → o ≠ 37 → o ≠ 38 → o ≠ 89 → M' o = M o)) := by
  refine Mt.of (fun ad => [some (.ref (ad (90))), some (.ref (ad (89))), some (.ref (ad (3 * r))), some (.ref (ad (3 * q))), none, none, none, none, none]) (by decide +kernel) (fun _ => rfl) (fun _ => rfl) (fun _ => Nat.le_of_ble_eq_true rfl) fun X hX C hR => ?_
  subst hX
  show G X M 0 [some (.ref ((zA X) (90))), some (.ref ((zA X) (89))), some (.ref ((zA X) (3 * r))), some (.ref ((zA X) (3 * q))), none, none, none, none, none] []
  obtain ⟨p1, p2, p3⟩ := ch_pos hpg hm
  have hA120 := hA.2.1
  have hB120 := hB.2.1
  generalize hch : (mem - 2) * pg = ch at p1 p2 p3 hs hR
  obtain ⟨Z, hZ⟩ : ∃ Z, Z = pbS a b pg ch 200 0 s0 := ⟨_, rfl⟩
  rw [← hZ] at hs hR
  have hZl := hs
  have lpC : ∀ (fk n u w i : Nat) (L0 : List (Int × Int)) (N0 N : zM), 200 - n < fk → n ≤ w → i < a.length → u + w ≤ b.length → (L0 ++ pjL a b i u w).length ≤ 120 → zRow N0 r a → zRow N0 q b → zOut N (L0 ++ pjL a b i u n) → zFo N0 N → (∀ N' : zM, zOut N' (L0 ++ pjL a b i u w) → zFo N0 N' → G X N' 130 [some (.ref (zA X 90)), some (.ref (zA X 89)), some (.ref (zA X (3 * r))), some (.ref (zA X (3 * q))), some (.int (jI (ch : Int))), some (.int (jI ((u : Int)))), some (.int (jI (((u + w : Nat) : Int)))), some (.int (jI ((i : Int)))), some (.int (jI (((u + w : Nat) : Int))))] []) → G X N 92 [some (.ref (zA X 90)), some (.ref (zA X 89)), some (.ref (zA X (3 * r))), some (.ref (zA X (3 * q))), some (.int (jI (ch : Int))), some (.int (jI ((u : Int)))), some (.int (jI (((u + w : Nat) : Int)))), some (.int (jI ((i : Int)))), some (.int (jI (((u + n : Nat) : Int))))] [] := by
    intro fk
    induction fk with
    | zero => intro n u w i L0 N0 N hk; exact absurd hk (Nat.not_lt_zero _)
    | succ fk ih =>
      intro n u w i L0 N0 N hk hn hi hw hlen hA0 hB0 hO hF kk
      have hA2 : zRow N r a := hA0.apo hF.1 hr12 hr
      have hB2 : zRow N q b := hB0.apo hF.1 hq12 hq
      have b1 := hba.at i
      have b2 := hbb.at (u + n)
      have hl0 := pjL_mono (a := a) (b := b) (i := i) (u := u) hn
      rw [List.length_append] at hlen
      refine g_iload C dX8_pairByParts_92 rfl ?_
      refine g_iload C dX8_pairByParts_94 rfl ?_
      refine g_icmp_ge (tgt := 130) C dX8_pairByParts_96 rfl (by omega) (by omega) (fun h96 => ?_) (fun h96 => ?_)
      · rw [show n = w by omega] at hO
        rw [show (u + n : Nat) = u + w by omega]
        exact kk N hO hF
      · refine g_aload_n C dX8_pairByParts_99 rfl ?_
        refine g_iload C dX8_pairByParts_100 rfl ?_
        refine gc_Row_keyAt C (by decide) tw_431 (Nat.le_of_ble_eq_true rfl) rfl dX8_pairByParts_102 hr i hi hA2 (?_)
        refine g_aload_n C dX8_pairByParts_105 rfl ?_
        refine g_iload C dX8_pairByParts_106 rfl ?_
        have hnw : n < w := by omega
        have hl1 := pjL_mono (a := a) (b := b) (i := i) (u := u) (show n + 1 ≤ w by omega)
        rw [pjL, List.length_append] at hl1
        refine gc_Row_keyAt C (by decide) tw_431 (Nat.le_of_ble_eq_true rfl) rfl dX8_pairByParts_108 hq (u + n) (by omega) hB2 (?_)
        show G X _ 111 _ _
        refine g_icmp_ne (tgt := 124) C dX8_pairByParts_111 rfl (by omega) (by omega) (fun h111 => ?_) (fun h111 => ?_)
        · refine g_iinc C dX8_pairByParts_124 rfl ?_
          show G X _ 127 [_, _, _, _, _, _, _, _, _] _
          refine g_goto (tgt := 92) C dX8_pairByParts_127 rfl ?_
          show G X _ 92 _ _
          rw [show ((u + n : Nat) : Int) + 1 = ((u + (n + 1) : Nat) : Int) by omega]
          exact ih (n + 1) u w i L0 N0 N (by omega) (by omega) hi hw (by rw [List.length_append]; exact hlen) hA0 hB0 (by rw [pjL, if_neg h111, List.append_nil]; exact hO) hF kk
        · refine g_aload_n C dX8_pairByParts_114 rfl ?_
          refine g_aload_n C dX8_pairByParts_115 rfl ?_
          refine g_iload C dX8_pairByParts_116 rfl ?_
          refine g_aload_n C dX8_pairByParts_118 rfl ?_
          refine g_iload C dX8_pairByParts_119 rfl ?_
          rw [if_pos h111] at hl1
          simp only [List.length_cons, List.length_nil] at hl1
          refine gc_Out_givePair C (by decide) tw_736 (Nat.le_of_ble_eq_true rfl) rfl dX8_pairByParts_121 hr hq i (u + n) hi (by omega) (by rw [List.length_append]; omega) hba hbb hA2 hB2 hO (fun N2 ⟨n1, n2⟩ => ?_)
          show G X _ 124 _ _
          refine g_iinc C dX8_pairByParts_124 rfl ?_
          show G X _ 127 [_, _, _, _, _, _, _, _, _] _
          refine g_goto (tgt := 92) C dX8_pairByParts_127 rfl ?_
          show G X _ 92 _ _
          rw [show ((u + n : Nat) : Int) + 1 = ((u + (n + 1) : Nat) : Int) by omega]
          exact ih (n + 1) u w i L0 N0 _ (by omega) (by omega) hi hw (by rw [List.length_append]; exact hlen) hA0 hB0 (by rw [pjL, if_pos h111, ← List.append_assoc]; exact n1) (hF.trans n2) kk
  have lpB : ∀ (fk i u w : Nat) (L0 : List (Int × Int)) (N0 N : zM), 200 - i < fk → i ≤ a.length → u + w ≤ b.length → (L0 ++ piL a b u w a.length).length ≤ 120 → zRow N0 r a → zRow N0 q b → zOut N (L0 ++ piL a b u w i) → zFo N0 N → (∀ (N' : zM) (v : Option Value), zOut N' (L0 ++ piL a b u w a.length) → zFo N0 N' → G X N' 136 [some (.ref (zA X 90)), some (.ref (zA X 89)), some (.ref (zA X (3 * r))), some (.ref (zA X (3 * q))), some (.int (jI (ch : Int))), some (.int (jI ((u : Int)))), some (.int (jI (((u + w : Nat) : Int)))), v, none] []) → G X N 79 [some (.ref (zA X 90)), some (.ref (zA X 89)), some (.ref (zA X (3 * r))), some (.ref (zA X (3 * q))), some (.int (jI (ch : Int))), some (.int (jI ((u : Int)))), some (.int (jI (((u + w : Nat) : Int)))), some (.int (jI ((i : Int)))), none] [] := by
    intro fk
    induction fk with
    | zero => intro i u w L0 N0 N hk; exact absurd hk (Nat.not_lt_zero _)
    | succ fk ih =>
      intro i u w L0 N0 N hk hn hw hlen hA0 hB0 hO hF kk
      have hA2 : zRow N r a := hA0.apo hF.1 hr12 hr
      have hB2 : zRow N q b := hB0.apo hF.1 hq12 hq
      have hA120 := hA2.2.1
      have hB120 := hB2.2.1
      refine g_iload C dX8_pairByParts_79 rfl ?_
      refine g_aload_n C dX8_pairByParts_81 rfl ?_
      refine gc_Row_count C (by decide) tw_390 (Nat.le_of_ble_eq_true rfl) rfl dX8_pairByParts_82 hr hA2 (?_)
      refine g_icmp_ge (tgt := 136) C dX8_pairByParts_85 rfl (by omega) (by omega) (fun h85 => ?_) (fun h85 => ?_)
      · rw [show i = a.length by omega] at hO
        exact kk N _ hO hF
      · refine g_iload C dX8_pairByParts_88 rfl ?_
        refine g_istore C dX8_pairByParts_90 (Nat.le_of_ble_eq_true rfl) ?_
        show G X _ 92 [_, _, _, _, _, _, _, _, _] _
        have hl1 := piL_mono (a := a) (b := b) (u := u) (w := w) (show i + 1 ≤ a.length by omega)
        rw [piL, List.length_append] at hl1
        rw [List.length_append] at hlen
        refine lpC 300 0 u w i (L0 ++ piL a b u w i) N N (by omega) (by omega) (by omega) hw (by rw [List.length_append, List.length_append]; omega) hA2 hB2 (by rw [pjL, List.append_nil]; exact hO) zFo.refl (fun N' z1 z2 => ?_)
        refine g_iinc C dX8_pairByParts_130 rfl ?_
        show G X _ 133 [_, _, _, _, _, _, _, _, _] _
        refine g_goto (tgt := 79) C dX8_pairByParts_133 rfl ?_
        show G X _ 79 _ _
        refine g_mask [true, true, true, true, true, true, true, true, false] rfl ?_
        show G X _ 79 [_, _, _, _, _, _, _, _, _] _
        exact ih (i + 1) u w L0 N0 N' (by omega) (by omega) hw (by rw [List.length_append]; exact hlen) hA0 hB0 (by rw [piL, ← List.append_assoc]; exact z1) (hF.trans z2) kk
  have lpA : ∀ (fk : Nat) (u : Nat) (s : Int × List (Int × Int)) (N : zM), min 199 b.length - u < fk → u ≤ 2000 → pbS a b pg ch fk u s = Z → zOut N s.2 → N 89 2 = s.1 → N 89 3 = M 89 3 → (∀ o, o ≠ 36 → o ≠ 37 → o ≠ 38 → o ≠ 89 → N o = M o) → G X N 20 [some (.ref (zA X 90)), some (.ref (zA X 89)), some (.ref (zA X (3 * r))), some (.ref (zA X (3 * q))), some (.int (jI (ch : Int))), some (.int (jI ((u : Int)))), none, none, none] [] := by
    intro fk
    induction fk with
    | zero => intro u s N hk; exact absurd hk (Nat.not_lt_zero _)
    | succ fk ih =>
      intro u s N hk hu hZ2 hO hr2 hw3 hF
      have hA2 : zRow N r a := hA.apo hF hr12 hr
      have hB2 : zRow N q b := hB.apo hF hq12 hq
      have hA120 := hA2.2.1
      have hB120 := hB2.2.1
      rw [pbS] at hZ2
      refine g_iload C dX8_pairByParts_20 rfl ?_
      refine g_aload_n C dX8_pairByParts_22 rfl ?_
      refine gc_Row_count C (by decide) tw_390 (Nat.le_of_ble_eq_true rfl) rfl dX8_pairByParts_23 hq hB2 (?_)
      refine g_icmp_ge (tgt := 146) C dX8_pairByParts_26 rfl (by omega) (by omega) (fun h26 => ?_) (fun h26 => ?_)
      · refine g_vret C hR dX8_pairByParts_146 ?_
        rw [if_neg (by omega)] at hZ2
        rw [← hZ2]
        exact ⟨rfl, hO, hr2, hw3, hF⟩
      · have hub : u < b.length := by omega
        rw [if_pos hub] at hZ2
        refine g_iload C dX8_pairByParts_29 rfl ?_
        refine g_iload C dX8_pairByParts_31 rfl ?_
        refine g_iadd C dX8_pairByParts_33 ?_
        refine g_aload_n C dX8_pairByParts_34 rfl ?_
        refine gc_Row_count C (by decide) tw_390 (Nat.le_of_ble_eq_true rfl) rfl dX8_pairByParts_35 hq hB2 (?_)
        refine gc_min C (by decide) tw_763 (Nat.le_of_ble_eq_true rfl) rfl dX8_pairByParts_38 _ _ (by omega) (by omega) (?_)
        obtain ⟨w, hw⟩ : ∃ w : Nat, w = min (u + ch) b.length - u := ⟨_, rfl⟩
        rw [show (if (u : Int) + (ch : Int) ≤ (b.length : Int) then (u : Int) + (ch : Int) else (b.length : Int)) = ((u + w : Nat) : Int) by split <;> omega]
        rw [← hw, show (min (u + ch) b.length : Nat) = u + w by omega] at hZ2
        show G X _ 41 _ _
        refine g_istore C dX8_pairByParts_41 (Nat.le_of_ble_eq_true rfl) ?_
        show G X _ 43 [_, _, _, _, _, _, _, _, _] _
        refine g_aload_n C dX8_pairByParts_43 rfl ?_
        refine g_dup C dX8_pairByParts_44 rfl ?_
        refine gf_Out_readPages C tw_160 dX8_pairByParts_45 ?_
        rw [hr2]
        refine g_iload C dX8_pairByParts_48 rfl ?_
        refine g_iload C dX8_pairByParts_50 rfl ?_
        refine g_isub C dX8_pairByParts_52 ?_
        show G X _ 53 _ _
        refine g_aload_n C dX8_pairByParts_53 rfl ?_
        refine gf_Spl_page C tw_185 dX8_pairByParts_54 ?_
        rw [hF 90 (by omega) (by omega) (by omega) (by omega), hp]
        refine gc_pagesFor C (by decide) tw_722 (Nat.le_of_ble_eq_true rfl) rfl dX8_pairByParts_57 _ _ (by omega) (by omega) (?_)
        refine g_aload_n C dX8_pairByParts_60 rfl ?_
        refine gc_Row_count C (by decide) tw_390 (Nat.le_of_ble_eq_true rfl) rfl dX8_pairByParts_61 hr hA2 (?_)
        refine g_aload_n C dX8_pairByParts_64 rfl ?_
        show G X _ 65 _ _
        refine gf_Spl_page C tw_185 dX8_pairByParts_65 ?_
        rw [hF 90 (by omega) (by omega) (by omega) (by omega), hp]
        refine gc_pagesFor C (by decide) tw_722 (Nat.le_of_ble_eq_true rfl) rfl dX8_pairByParts_68 _ _ (by omega) (by omega) (?_)
        refine g_iadd C dX8_pairByParts_71 ?_
        refine g_iadd C dX8_pairByParts_72 ?_
        refine gp_Out_readPages C tw_160 dX8_pairByParts_73 ?_
        refine g_iconst C dX8_pairByParts_76 ?_
        show G X _ 77 _ _
        refine g_istore C dX8_pairByParts_77 (Nat.le_of_ble_eq_true rfl) ?_
        show G X _ 79 [_, _, _, _, _, _, _, _, _] _
        generalize hN1 : zu N 89 2 _ = N1
        have c1 : ∀ o, o ≠ 89 → N1 o = N o := fun o h => by rw [← hN1, zu_o _ _ _ _ h]
        have hmo := pbS_mono (a := a) (b := b) (pg := (pg : Int)) (ch := ch) fk (u + ch) (s.1 + (pgs (((u + w : Nat) : Int) - (u : Int)) pg + pgs (a.length : Int) pg), s.2 ++ piL a b u w a.length)
        rw [hZ2] at hmo
        refine lpB 300 0 u w s.2 N1 N1 (by omega) (by omega) (by omega) (Nat.le_trans hmo hZl) (hA2.same (fun o _ _ => c1 o (by omega))) (hB2.same (fun o _ _ => c1 o (by omega))) (by rw [piL, List.append_nil]; exact hO.pages c1 (by rw [← hN1, zu_k _ _ _ _ (by omega)])) zFo.refl (fun N' v z1 z2 => ?_)
        refine g_iload C dX8_pairByParts_136 rfl ?_
        refine g_iload C dX8_pairByParts_138 rfl ?_
        refine g_iadd C dX8_pairByParts_140 ?_
        refine g_istore C dX8_pairByParts_141 (Nat.le_of_ble_eq_true rfl) ?_
        show G X _ 143 [_, _, _, _, _, _, _, _, _] _
        refine g_goto (tgt := 20) C dX8_pairByParts_143 rfl ?_
        show G X _ 20 _ _
        refine g_mask [true, true, true, true, true, true, false, false, false] rfl ?_
        show G X _ 20 [_, _, _, _, _, _, _, _, _] _
        rw [show (u : Int) + (ch : Int) = ((u + ch : Nat) : Int) by omega]
        refine ih (u + ch) _ N' (by omega) (by omega) hZ2 z1 ?_ ?_ (fun o a b d e => (z2.1 o a b d e).trans ((c1 o e).trans (hF o a b d e)))
        · rw [z2.2 2 (by omega), ← hN1, zu_s]
        · rw [z2.2 3 (by omega), ← hN1, zu_k _ _ _ _ (by omega)]; exact hw3
  refine g_iconst C dX8_pairByParts_0 ?_
  refine g_aload_n C dX8_pairByParts_1 rfl ?_
  refine gf_Spl_memory C tw_187 dX8_pairByParts_2 ?_
  rw [hmem]
  refine g_iconst C dX8_pairByParts_5 ?_
  refine g_isub C dX8_pairByParts_6 ?_
  refine g_aload_n C dX8_pairByParts_7 rfl ?_
  show G X _ 8 _ _
  refine gf_Spl_page C tw_185 dX8_pairByParts_8 ?_
  rw [hp]
  refine g_imul C dX8_pairByParts_11 ?_
  rw [p3]
  refine gc_max C (by decide) tw_762 (Nat.le_of_ble_eq_true rfl) rfl dX8_pairByParts_12 _ _ (by omega) (by omega) (?_)
  rw [show (if (ch : Int) ≤ 1 then 1 else (ch : Int)) = (ch : Int) by split <;> omega]
  refine g_istore C dX8_pairByParts_15 (Nat.le_of_ble_eq_true rfl) ?_
  show G X _ 17 [_, _, _, _, _, _, _, _, _] _
  refine g_iconst C dX8_pairByParts_17 ?_
  refine g_istore C dX8_pairByParts_18 (Nat.le_of_ble_eq_true rfl) ?_
  show G X _ 20 [_, _, _, _, _, _, _, _, _] _
  exact lpA 200 0 s0 M (by omega) (by omega) hZ.symm hL h2 rfl (fun _ _ _ _ _ => rfl)
theorem gc_pairByParts {X : z_X} {cc : ByteArray} {own : String} {ret : Option FieldType} {dC nC : Nat} {M : zM} {pc : Nat} {lv : List (Option Value)} {st : List Value} (C : Cx cc own ret dC nC X) (hdep : 5 ≤ dC) {idx : Nat} (hl0 : Cond.methodLink own idx yX8_pairByParts ∈ tT) (hcat : (st.map fun v => v.category).sum ≤ 8) (hlen : lv.length = nC) (hdec : decode cc pc = .ok (.invokestatic idx, 3)) (pg mem : Nat) (hpg : 1 ≤ pg ∧ pg ≤ 100) (hm : 3 ≤ mem ∧ mem ≤ 12) {r q : Nat} (hr : r < 20) (hq : q < 20) (hr12 : r ≠ 12) (hq12 : q ≠ 12) {a b : List (Int × Int)} (hba : zIn a) (hbb : zIn b) (s0 : Int × List (Int × Int)) (hs : (pbS a b pg ((mem - 2) * pg) 200 0 s0).2.length ≤ 120) (hp : M 90 0 = (pg : Int)) (hmem : M 90 1 = (mem : Int)) (hA : zRow M r a) (hB : zRow M q b) (hL : zOut M s0.2) (h2 : M 89 2 = s0.1) (kk : ∀ M' : zM, (zOut M' (pbS a b pg ((mem - 2) * pg) 200 0 s0).2 ∧ M' 89 2 = (pbS a b pg ((mem - 2) * pg) 200 0 s0).1 ∧ M' 89 3 = M 89 3 ∧ ∀ o, o ≠ 36 → o ≠ 37 → o ≠ 38 → o ≠ 89 → M' o = M o) → G X M' (pc + 3) lv st) : G X M pc lv (.ref (zA X (3 * q)) :: .ref (zA X (3 * r)) :: .ref (zA X (89)) :: .ref (zA X (90)) :: st) := by
  refine g_callS (k := 4) C (c_pairByParts (zL X) pg mem hpg hm hr hq hr12 hq12 hba hbb s0 hs M hp hmem hA hB hL h2) mfX8_pairByParts hl0 ⟨rfl, by decide +kernel, by decide +kernel, by decide +kernel⟩ ⟨hdep, by decide⟩ rfl rfl rfl hcat hlen hdec (fun v M' h => ?_)
  obtain ⟨rfl, h⟩ := h
  exact kk M' h
