/-! splitting by recursion, and what it costs -/
set_option maxHeartbeats 4000000 in
set_option maxRecDepth 10000 in
theorem c_split3 (l : Launch) (pg mem : Nat) (hpg : 1 ≤ pg ∧ pg ≤ 100) (hm : 3 ≤ mem ∧ mem ≤ 12) {r q : Nat} (hr : r < 20) (hq : q < 20) (hr12 : r ≠ 12) (hq12 : q ≠ 12) {a b : List (Int × Int)} (hba : zIn a) (hbb : zIn b) (hsep : (r < 16 ∨ (16 ≤ r ∧ r < 19)) ∧ (q < 16 ∨ (16 ≤ q ∧ q < 19))) (s0 : zS3) (hs : (sqS pg mem 0 a b s0).2.2.length ≤ 120) (M : zM) (hp : M 90 0 = (pg : Int)) (hmem : M 90 1 = (mem : Int)) (hA : zRow M r a) (hB : zRow M q b) (hL : zOut M s0.2.2) (h2 : M 89 2 = s0.1) (h3 : M 89 3 = s0.2.1) : Mt l 5 yX8_splitRows cX8_splitRows 9 none (fun ad => [.ref (ad (90)), .ref (ad (89)), .ref (ad (3 * r)), .ref (ad (3 * q)), .int (jI (((3 : Nat) : Int)))]) M (fun _ vv M' => vv = none ∧ (zOut M' (sqS pg mem 0 a b s0).2.2 ∧ M' 89 2 = (sqS pg mem 0 a b s0).1 ∧ M' 89 3 = (sqS pg mem 0 a b s0).2.1 ∧ ∀ o, o ≠ 36 → o ≠ 37 → o ≠ 38 → o ≠ 89 → (o < 48 ∨ 48 ≤ o) → (o < 57 ∨ 57 ≤ o) → M' o = M o)) := by
  refine Mt.of (fun ad => [some (.ref (ad (90))), some (.ref (ad (89))), some (.ref (ad (3 * r))), some (.ref (ad (3 * q))), some (.int (jI (((3 : Nat) : Int)))), none, none, none, none]) (by decide +kernel) (fun _ => rfl) (fun _ => rfl) (fun _ => Nat.le_of_ble_eq_true rfl) fun X hX C hR => ?_
  subst hX
  show G X M 0 [some (.ref ((zA X) (90))), some (.ref ((zA X) (89))), some (.ref ((zA X) (3 * r))), some (.ref ((zA X) (3 * q))), some (.int (jI (((3 : Nat) : Int)))), none, none, none, none] []
  have hA120 := hA.2.1
  have hB120 := hB.2.1
  refine g_aload_n C dX8_splitRows_0 rfl ?_
  refine gc_Row_count C (by decide) tw_390 (Nat.le_of_ble_eq_true rfl) rfl dX8_splitRows_1 hr hA (?_)
  refine g_if_eq (tgt := 14) C dX8_splitRows_4 rfl (by omega) (fun h4 => ?_) (fun h4 => ?_)
  · have hE : sqS pg mem 0 a b s0 = s0 := by rw [sqS, if_pos (by omega)]
    refine g_vret C hR dX8_splitRows_14 ?_
    first
      | exact (by rw [hE]; exact ⟨rfl, hL, h2, h3, fun _ _ _ _ _ _ _ => rfl⟩)
      | exact (by rw [hE]; exact ⟨rfl, n1, n2, n3.trans h3, fun o a b c e _ _ => n4 o a b c e⟩)
  · refine g_aload_n C dX8_splitRows_7 rfl ?_
    refine gc_Row_count C (by decide) tw_390 (Nat.le_of_ble_eq_true rfl) rfl dX8_splitRows_8 hq hB (?_)
    refine g_if_ne (tgt := 15) C dX8_splitRows_11 rfl (by omega) (fun h11 => ?_) (fun h11 => ?_)
    · refine g_iload C dX8_splitRows_15 rfl ?_
      refine g_iconst C dX8_splitRows_17 ?_
      refine g_icmp_ge (tgt := 41) C dX8_splitRows_18 rfl (by omega) (by omega) (fun h18 => ?_) (fun h18 => ?_)
      · refine g_aload_n C dX8_splitRows_41 rfl ?_
        refine g_aload_n C dX8_splitRows_42 rfl ?_
        refine g_aload_n C dX8_splitRows_43 rfl ?_
        refine g_aload_n C dX8_splitRows_44 rfl ?_
        obtain ⟨Y, hY⟩ : ∃ Y, Y = pbS a b pg ((mem - 2) * pg) 200 0 (s0.1, s0.2.2) := ⟨_, rfl⟩
        have hE : sqS pg mem 0 a b s0 = (Y.1, s0.2.1, Y.2) := by rw [sqS, if_neg (by omega), hY]
        rw [hE] at hs
        refine gc_pairByParts C (by decide) tw_759 (Nat.le_of_ble_eq_true rfl) rfl dX8_splitRows_45 pg mem hpg hm hr hq hr12 hq12 hba hbb (s0.1, s0.2.2) (by rw [← hY]; exact hs) hp hmem hA hB hL h2 (fun N ⟨n1, n2, n3, n4⟩ => ?_)
        rw [← hY] at n1 n2
        refine g_vret C hR dX8_splitRows_48 ?_
        first
          | exact (by rw [hE]; exact ⟨rfl, hL, h2, h3, fun _ _ _ _ _ _ _ => rfl⟩)
          | exact (by rw [hE]; exact ⟨rfl, n1, n2, n3.trans h3, fun o a b c e _ _ => n4 o a b c e⟩)
      · omega
    · have hE : sqS pg mem 0 a b s0 = s0 := by rw [sqS, if_pos (by omega)]
      refine g_vret C hR dX8_splitRows_14 ?_
      first
        | exact (by rw [hE]; exact ⟨rfl, hL, h2, h3, fun _ _ _ _ _ _ _ => rfl⟩)
        | exact (by rw [hE]; exact ⟨rfl, n1, n2, n3.trans h3, fun o a b c e _ _ => n4 o a b c e⟩)
theorem gc_split3 {X : z_X} {cc : ByteArray} {own : String} {ret : Option FieldType} {dC nC : Nat} {M : zM} {pc : Nat} {lv : List (Option Value)} {st : List Value} (C : Cx cc own ret dC nC X) (hdep : 6 ≤ dC) {idx : Nat} (hl0 : Cond.methodLink own idx yX8_splitRows ∈ tT) (hcat : (st.map fun v => v.category).sum ≤ 8) (hlen : lv.length = nC) (hdec : decode cc pc = .ok (.invokestatic idx, 3)) (pg mem : Nat) (hpg : 1 ≤ pg ∧ pg ≤ 100) (hm : 3 ≤ mem ∧ mem ≤ 12) {r q : Nat} (hr : r < 20) (hq : q < 20) (hr12 : r ≠ 12) (hq12 : q ≠ 12) {a b : List (Int × Int)} (hba : zIn a) (hbb : zIn b) (hsep : (r < 16 ∨ (16 ≤ r ∧ r < 19)) ∧ (q < 16 ∨ (16 ≤ q ∧ q < 19))) (s0 : zS3) (hs : (sqS pg mem 0 a b s0).2.2.length ≤ 120) (hp : M 90 0 = (pg : Int)) (hmem : M 90 1 = (mem : Int)) (hA : zRow M r a) (hB : zRow M q b) (hL : zOut M s0.2.2) (h2 : M 89 2 = s0.1) (h3 : M 89 3 = s0.2.1) (kk : ∀ M' : zM, (zOut M' (sqS pg mem 0 a b s0).2.2 ∧ M' 89 2 = (sqS pg mem 0 a b s0).1 ∧ M' 89 3 = (sqS pg mem 0 a b s0).2.1 ∧ ∀ o, o ≠ 36 → o ≠ 37 → o ≠ 38 → o ≠ 89 → (o < 48 ∨ 48 ≤ o) → (o < 57 ∨ 57 ≤ o) → M' o = M o) → G X M' (pc + 3) lv st) : G X M pc lv (.int (jI (((3 : Nat) : Int))) :: .ref (zA X (3 * q)) :: .ref (zA X (3 * r)) :: .ref (zA X (89)) :: .ref (zA X (90)) :: st) := by
  refine g_callS (k := 5) C (c_split3 (zL X) pg mem hpg hm hr hq hr12 hq12 hba hbb hsep s0 hs M hp hmem hA hB hL h2 h3) mfX8_splitRows hl0 ⟨rfl, by decide +kernel, by decide +kernel, by decide +kernel⟩ ⟨hdep, by decide⟩ rfl rfl rfl hcat hlen hdec (fun v M' h => ?_)
  obtain ⟨rfl, h⟩ := h
  exact kk M' h
set_option maxHeartbeats 4000000 in
set_option maxRecDepth 10000 in
theorem c_split2 (l : Launch) (pg mem : Nat) (hpg : 1 ≤ pg ∧ pg ≤ 100) (hm : 3 ≤ mem ∧ mem ≤ 12) {r q : Nat} (hr : r < 20) (hq : q < 20) (hr12 : r ≠ 12) (hq12 : q ≠ 12) {a b : List (Int × Int)} (hba : zIn a) (hbb : zIn b) (hsep : (r < 15 ∨ (16 ≤ r ∧ r < 18)) ∧ (q < 15 ∨ (16 ≤ q ∧ q < 18))) (s0 : zS3) (hs : (sqS pg mem 1 a b s0).2.2.length ≤ 120) (M : zM) (hp : M 90 0 = (pg : Int)) (hmem : M 90 1 = (mem : Int)) (hA : zRow M r a) (hB : zRow M q b) (hL : zOut M s0.2.2) (h2 : M 89 2 = s0.1) (h3 : M 89 3 = s0.2.1) : Mt l 6 yX8_splitRows cX8_splitRows 9 none (fun ad => [.ref (ad (90)), .ref (ad (89)), .ref (ad (3 * r)), .ref (ad (3 * q)), .int (jI (((2 : Nat) : Int)))]) M (fun _ vv M' => vv = none ∧ (zOut M' (sqS pg mem 1 a b s0).2.2 ∧ M' 89 2 = (sqS pg mem 1 a b s0).1 ∧ M' 89 3 = (sqS pg mem 1 a b s0).2.1 ∧ ∀ o, o ≠ 36 → o ≠ 37 → o ≠ 38 → o ≠ 89 → (o < 45 ∨ 48 ≤ o) → (o < 54 ∨ 57 ≤ o) → M' o = M o)) := by
  refine Mt.of (fun ad => [some (.ref (ad (90))), some (.ref (ad (89))), some (.ref (ad (3 * r))), some (.ref (ad (3 * q))), some (.int (jI (((2 : Nat) : Int)))), none, none, none, none]) (by decide +kernel) (fun _ => rfl) (fun _ => rfl) (fun _ => Nat.le_of_ble_eq_true rfl) fun X hX C hR => ?_
  subst hX
  show G X M 0 [some (.ref ((zA X) (90))), some (.ref ((zA X) (89))), some (.ref ((zA X) (3 * r))), some (.ref ((zA X) (3 * q))), some (.int (jI (((2 : Nat) : Int)))), none, none, none, none] []
  have hA120 := hA.2.1
  have hB120 := hB.2.1
  have lp : ∀ (s1 : zS3), sqS pg mem 1 a b s0 = fdS (gsS pg mem 0 a b) (mem - 1) s1 → ∀ (fk : Nat) (k : Nat) (N : zM), 30 - k < fk → k ≤ mem - 1 → zOut N (fdS (gsS pg mem 0 a b) k s1).2.2 → N 89 2 = (fdS (gsS pg mem 0 a b) k s1).1 → N 89 3 = (fdS (gsS pg mem 0 a b) k s1).2.1 → (∀ o, o ≠ 36 → o ≠ 37 → o ≠ 38 → o ≠ 89 → (o < 45 ∨ 48 ≤ o) → (o < 54 ∨ 57 ≤ o) → N o = M o) → (fdS (gsS pg mem 0 a b) (mem - 1) s1).2.2.length ≤ 120 → G X N 92 [some (.ref (zA X 90)), some (.ref (zA X 89)), some (.ref (zA X (3 * r))), some (.ref (zA X (3 * q))), some (.int (jI (((2 : Nat) : Int)))), some (.int (jI ((mem : Int) - 1))), some (.int (jI ((k : Int)))), none, none] [] := by
    intro s1 hE fk
    induction fk with
    | zero => intro k N hk; exact absurd hk (Nat.not_lt_zero _)
    | succ fk ih =>
      intro k N hk k1 hO hr2 hw3 hF hlen
      have hA2 : zRow N r a := hA.same (fun o _ _ => hF o (by omega) (by omega) (by omega) (by omega) (by omega) (by omega))
      have hB2 : zRow N q b := hB.same (fun o _ _ => hF o (by omega) (by omega) (by omega) (by omega) (by omega) (by omega))
      have hp2 : N 90 0 = (pg : Int) := by rw [hF 90 (by omega) (by omega) (by omega) (by omega) (by omega) (by omega)]; exact hp
      have hm2 : N 90 1 = ((mem - 1 : Nat) : Int) + 1 := by rw [hF 90 (by omega) (by omega) (by omega) (by omega) (by omega) (by omega), hmem]; omega
      refine g_iload C dX8_splitRows_92 rfl ?_
      refine g_iload C dX8_splitRows_94 rfl ?_
      refine g_icmp_ge (tgt := 182) C dX8_splitRows_96 rfl (by omega) (by omega) (fun h96 => ?_) (fun h96 => ?_)
      · refine g_vret C hR dX8_splitRows_182 ?_
        obtain rfl : k = mem - 1 := by omega
        rw [hE]
        exact ⟨rfl, hO, hr2, hw3, hF⟩
      · refine g_aload_n C dX8_splitRows_99 rfl ?_
        refine g_aload_n C dX8_splitRows_100 rfl ?_
        refine g_iload C dX8_splitRows_101 rfl ?_
        refine g_iload C dX8_splitRows_103 rfl ?_
        refine gc_Spl_fillOne C (by decide) tw_764 (Nat.le_of_ble_eq_true rfl) rfl dX8_splitRows_105 hr (mem - 1) 2 (k : Int) (by omega) (by omega) (by omega) (by omega) hba hm2 hA2 (fun N1 ⟨u1, u2⟩ => ?_)
        refine g_astore C dX8_splitRows_108 (Nat.le_of_ble_eq_true rfl) ?_
        show G X _ 110 [_, _, _, _, _, _, _, _, _] _
        refine g_aload_n C dX8_splitRows_110 rfl ?_
        refine g_aload_n C dX8_splitRows_111 rfl ?_
        refine g_iload C dX8_splitRows_112 rfl ?_
        refine g_iload C dX8_splitRows_114 rfl ?_
        refine gc_Spl_fillOther C (by decide) tw_781 (Nat.le_of_ble_eq_true rfl) rfl dX8_splitRows_116 hq (mem - 1) 2 (k : Int) (by omega) (by omega) (by omega) (by omega) hbb (by rw [u2 90 (by omega) (by omega) (by omega)]; exact hm2) (hB2.apart u2 (by omega)) (fun N2 ⟨v1, v2⟩ => ?_)
        have u3 : zRow N2 (13 + 2) (spL ((mem - 1 : Nat) : Int) 2 (k : Int) a) := u1.apart v2 (by omega)
        have la := u3.2.1
        have lb := v1.2.1
        have f2 : ∀ o, (o < 45 ∨ 48 ≤ o) → (o < 54 ∨ 57 ≤ o) → N2 o = N o := fun o e1 e2 => (v2 o (by omega) (by omega) (by omega)).trans (u2 o (by omega) (by omega) (by omega))
        refine g_astore C dX8_splitRows_119 (Nat.le_of_ble_eq_true rfl) ?_
        show G X _ 121 [_, _, _, _, _, _, _, _, _] _
        refine g_aload_n C dX8_splitRows_121 rfl ?_
        refine g_dup C dX8_splitRows_122 rfl ?_
        refine gf_Out_writtenPages C tw_162 dX8_splitRows_123 ?_
        rw [f2 89 (by omega) (by omega), hw3]
        refine g_aload C dX8_splitRows_126 rfl ?_
        refine gc_Row_count C (by decide) tw_390 (Nat.le_of_ble_eq_true rfl) rfl dX8_splitRows_128 (r := 15) (by omega) u3 (?_)
        refine g_aload_n C dX8_splitRows_131 rfl ?_
        show G X _ 132 _ _
        refine gf_Spl_page C tw_185 dX8_splitRows_132 ?_
        rw [f2 90 (by omega) (by omega), hp2]
        refine gc_pagesFor C (by decide) tw_722 (Nat.le_of_ble_eq_true rfl) rfl dX8_splitRows_135 _ _ (by omega) (by omega) (?_)
        refine g_iadd C dX8_splitRows_138 ?_
        refine gp_Out_writtenPages C tw_162 dX8_splitRows_139 ?_
        refine g_aload_n C dX8_splitRows_142 rfl ?_
        refine g_dup C dX8_splitRows_143 rfl ?_
        show G X _ 144 _ _
        generalize hN3 : zu N2 89 3 _ = N3
        have c3 : ∀ o, o ≠ 89 → N3 o = N2 o := fun o h => by rw [← hN3, zu_o _ _ _ _ h]
        have c3w : N3 89 3 = (fdS (gsS pg mem 0 a b) k s1).2.1 + pgs ((spL ((mem - 1 : Nat) : Int) 2 (k : Int) a).length : Int) pg := by rw [← hN3, zu_s]
        have c3k : ∀ j, j ≠ 3 → N3 89 j = N2 89 j := fun j h => by rw [← hN3, zu_k _ _ _ _ h]
        refine gf_Out_writtenPages C tw_162 dX8_splitRows_144 ?_
        
        refine g_aload C dX8_splitRows_147 rfl ?_
        refine gc_Row_count C (by decide) tw_390 (Nat.le_of_ble_eq_true rfl) rfl dX8_splitRows_149 (r := 18) (by omega) (v1.same (fun o _ _ => c3 o (by omega))) (?_)
        refine g_aload_n C dX8_splitRows_152 rfl ?_
        refine gf_Spl_page C tw_185 dX8_splitRows_153 ?_
        rw [c3 90 (by omega), f2 90 (by omega) (by omega), hp2]
        refine gc_pagesFor C (by decide) tw_722 (Nat.le_of_ble_eq_true rfl) rfl dX8_splitRows_156 _ _ (by omega) (by omega) (?_)
        show G X _ 159 _ _
        refine g_iadd C dX8_splitRows_159 ?_
        refine gp_Out_writtenPages C tw_162 dX8_splitRows_160 ?_
        generalize hN4 : zu N3 89 3 _ = N4
        have c4 : ∀ o, o ≠ 89 → N4 o = N2 o := fun o h => by rw [← hN4, zu_o _ _ _ _ h]; exact c3 o h
        have c4w : N4 89 3 = (fdS (gsS pg mem 0 a b) k s1).2.1 + pgs ((spL ((mem - 1 : Nat) : Int) 2 (k : Int) a).length : Int) pg + pgs ((spL ((mem - 1 : Nat) : Int) 2 (k : Int) b).length : Int) pg := by rw [← hN4, zu_s, c3w]
        have c4k : ∀ j, j ≠ 3 → N4 89 j = N2 89 j := fun j h => by rw [← hN4, zu_k _ _ _ _ h]; exact c3k j h
        have hg : ∀ (k : Nat) (t : zS3), t.2.2.length ≤ ((gsS pg mem 0 a b) k t).2.2.length := fun k t => by
          unfold gsS
          refine Nat.le_trans ?_ (sqS_mono 0 _ _ _)
          exact Nat.le_refl _
        have hl1 := fdS_mono hg s1 (show k + 1 ≤ mem - 1 by omega)
        have hEq : fdS (gsS pg mem 0 a b) (k + 1) s1 = sqS pg mem 0 (spL ((mem - 1 : Nat) : Int) 2 (k : Int) a) (spL ((mem - 1 : Nat) : Int) 2 (k : Int) b) ((fdS (gsS pg mem 0 a b) k s1).1, (fdS (gsS pg mem 0 a b) k s1).2.1 + pgs ((spL ((mem - 1 : Nat) : Int) 2 (k : Int) a).length : Int) pg + pgs ((spL ((mem - 1 : Nat) : Int) 2 (k : Int) b).length : Int) pg, (fdS (gsS pg mem 0 a b) k s1).2.2) := rfl
        refine g_aload_n C dX8_splitRows_163 rfl ?_
        refine g_aload_n C dX8_splitRows_164 rfl ?_
        refine g_aload C dX8_splitRows_165 rfl ?_
        refine g_aload C dX8_splitRows_167 rfl ?_
        show G X _ 169 _ _
        refine g_iload C dX8_splitRows_169 rfl ?_
        refine g_iconst C dX8_splitRows_171 ?_
        refine g_iadd C dX8_splitRows_172 ?_
        rw [show ((2 : Nat) : Int) + 1 = ((3 : Nat) : Int) from rfl]
        refine gc_split3 C (by decide) tw_756 (Nat.le_of_ble_eq_true rfl) rfl dX8_splitRows_173 pg mem hpg hm (r := 15) (q := 18) (by omega) (by omega) (by omega) (by omega) (zIn.spL hba) (zIn.spL hbb) (by omega) ((fdS (gsS pg mem 0 a b) k s1).1, (fdS (gsS pg mem 0 a b) k s1).2.1 + pgs ((spL ((mem - 1 : Nat) : Int) 2 (k : Int) a).length : Int) pg + pgs ((spL ((mem - 1 : Nat) : Int) 2 (k : Int) b).length : Int) pg, (fdS (gsS pg mem 0 a b) k s1).2.2) (by rw [← hEq]; exact Nat.le_trans hl1 hlen) (by rw [c4 90 (by omega), f2 90 (by omega) (by omega)]; exact hp2) (by rw [c4 90 (by omega), f2 90 (by omega) (by omega), hm2]; omega) (u3.same (fun o _ _ => c4 o (by omega))) (v1.same (fun o _ _ => c4 o (by omega))) (zOut.pages ⟨hO.1.same (fun o _ _ => f2 o (by omega) (by omega)), by rw [f2 89 (by omega) (by omega)]; exact hO.2⟩ c4 (c4k 1 (by omega))) (by rw [c4k 2 (by omega), f2 89 (by omega) (by omega)]; exact hr2) c4w (fun N5 ⟨w1, w2, w3, w4⟩ => ?_)
        rw [← hEq] at w1 w2 w3
        refine g_iinc C dX8_splitRows_176 rfl ?_
        show G X _ 179 [_, _, _, _, _, _, _, _, _] _
        refine g_goto (tgt := 92) C dX8_splitRows_179 rfl ?_
        show G X _ 92 _ _
        refine g_mask [true, true, true, true, true, true, true, false, false] rfl ?_
        show G X _ 92 [_, _, _, _, _, _, _, _, _] _
        exact ih (k + 1) N5 (by omega) (by omega) w1 w2 w3 (fun o e1 e2 e3 e4 e5 e6 => (w4 o e1 e2 e3 e4 (by omega) (by omega)).trans ((c4 o e4).trans ((f2 o e5 e6).trans (hF o e1 e2 e3 e4 e5 e6)))) hlen
  refine g_aload_n C dX8_splitRows_0 rfl ?_
  refine gc_Row_count C (by decide) tw_390 (Nat.le_of_ble_eq_true rfl) rfl dX8_splitRows_1 hr hA (?_)
  refine g_if_eq (tgt := 14) C dX8_splitRows_4 rfl (by omega) (fun h4 => ?_) (fun h4 => ?_)
  · have hE : sqS pg mem 1 a b s0 = s0 := by rw [sqS, if_pos (by omega)]
    refine g_vret C hR dX8_splitRows_14 ?_
    first
      | exact (by rw [hE]; exact ⟨rfl, hL, h2, h3, fun _ _ _ _ _ _ _ => rfl⟩)
      | exact (by rw [hE]; exact ⟨rfl, n1, n2, n3.trans h3, fun o a b c e _ _ => n4 o a b c e⟩)
  · refine g_aload_n C dX8_splitRows_7 rfl ?_
    refine gc_Row_count C (by decide) tw_390 (Nat.le_of_ble_eq_true rfl) rfl dX8_splitRows_8 hq hB (?_)
    refine g_if_ne (tgt := 15) C dX8_splitRows_11 rfl (by omega) (fun h11 => ?_) (fun h11 => ?_)
    · refine g_iload C dX8_splitRows_15 rfl ?_
      refine g_iconst C dX8_splitRows_17 ?_
      refine g_icmp_ge (tgt := 41) C dX8_splitRows_18 rfl (by omega) (by omega) (fun h18 => ?_) (fun h18 => ?_)
      · omega
      · refine g_aload_n C dX8_splitRows_21 rfl ?_
        refine gc_Row_count C (by decide) tw_390 (Nat.le_of_ble_eq_true rfl) rfl dX8_splitRows_22 hq hB (?_)
        refine g_aload_n C dX8_splitRows_25 rfl ?_
        refine gf_Spl_page C tw_185 dX8_splitRows_26 ?_
        rw [hp]
        have hpb := pgs_in (a := (b.length : Int)) (b := (pg : Int)) (by omega) (by omega)
        refine gc_pagesFor C (by decide) tw_722 (Nat.le_of_ble_eq_true rfl) rfl dX8_splitRows_29 _ _ (by omega) (by omega) (?_)
        refine g_aload_n C dX8_splitRows_32 rfl ?_
        show G X _ 33 _ _
        refine gf_Spl_memory C tw_187 dX8_splitRows_33 ?_
        rw [hmem]
        refine g_iconst C dX8_splitRows_36 ?_
        refine g_isub C dX8_splitRows_37 ?_
        refine g_icmp_gt (tgt := 49) C dX8_splitRows_38 rfl (by omega) (by omega) (fun h38 => ?_) (fun h38 => ?_)
        · refine g_aload_n C dX8_splitRows_49 rfl ?_
          refine g_dup C dX8_splitRows_50 rfl ?_
          refine gf_Out_readPages C tw_160 dX8_splitRows_51 ?_
          rw [h2]
          refine g_aload_n C dX8_splitRows_54 rfl ?_
          refine gc_Row_count C (by decide) tw_390 (Nat.le_of_ble_eq_true rfl) rfl dX8_splitRows_55 hr hA (?_)
          refine g_aload_n C dX8_splitRows_58 rfl ?_
          show G X _ 59 _ _
          refine gf_Spl_page C tw_185 dX8_splitRows_59 ?_
          rw [hp]
          refine gc_pagesFor C (by decide) tw_722 (Nat.le_of_ble_eq_true rfl) rfl dX8_splitRows_62 _ _ (by omega) (by omega) (?_)
          refine g_aload_n C dX8_splitRows_65 rfl ?_
          refine gc_Row_count C (by decide) tw_390 (Nat.le_of_ble_eq_true rfl) rfl dX8_splitRows_66 hq hB (?_)
          refine g_aload_n C dX8_splitRows_69 rfl ?_
          refine gf_Spl_page C tw_185 dX8_splitRows_70 ?_
          rw [hp]
          show G X _ 73 _ _
          refine gc_pagesFor C (by decide) tw_722 (Nat.le_of_ble_eq_true rfl) rfl dX8_splitRows_73 _ _ (by omega) (by omega) (?_)
          refine g_iadd C dX8_splitRows_76 ?_
          refine g_iadd C dX8_splitRows_77 ?_
          refine gp_Out_readPages C tw_160 dX8_splitRows_78 ?_
          refine g_aload_n C dX8_splitRows_81 rfl ?_
          refine gf_Spl_memory C tw_187 dX8_splitRows_82 ?_
          rw [zu_o _ _ _ _ (by omega), hmem]
          show G X _ 85 _ _
          refine g_iconst C dX8_splitRows_85 ?_
          refine g_isub C dX8_splitRows_86 ?_
          refine g_istore C dX8_splitRows_87 (Nat.le_of_ble_eq_true rfl) ?_
          show G X _ 89 [_, _, _, _, _, _, _, _, _] _
          refine g_iconst C dX8_splitRows_89 ?_
          refine g_istore C dX8_splitRows_90 (Nat.le_of_ble_eq_true rfl) ?_
          show G X _ 92 [_, _, _, _, _, _, _, _, _] _
          have hE : sqS pg mem 1 a b s0 = fdS (gsS pg mem 0 a b) (mem - 1) (s0.1 + (pgs (a.length : Int) pg + pgs (b.length : Int) pg), s0.2.1, s0.2.2) := by rw [sqS, if_neg (by omega), if_neg (by omega)]; rfl
          exact lp (s0.1 + (pgs (a.length : Int) pg + pgs (b.length : Int) pg), s0.2.1, s0.2.2) hE 100 0 _ (by omega) (by omega) (hL.pages (fun o h => zu_o _ _ _ _ h) (zu_k _ _ _ _ (by omega))) (zu_s _ _ _ _) (by rw [zu_k _ _ _ _ (by omega)]; exact h3) (fun o _ _ _ e _ _ => zu_o _ _ _ _ e) (by rw [← hE]; exact hs)
        · refine g_aload_n C dX8_splitRows_41 rfl ?_
          refine g_aload_n C dX8_splitRows_42 rfl ?_
          refine g_aload_n C dX8_splitRows_43 rfl ?_
          refine g_aload_n C dX8_splitRows_44 rfl ?_
          obtain ⟨Y, hY⟩ : ∃ Y, Y = pbS a b pg ((mem - 2) * pg) 200 0 (s0.1, s0.2.2) := ⟨_, rfl⟩
          have hE : sqS pg mem 1 a b s0 = (Y.1, s0.2.1, Y.2) := by rw [sqS, if_neg (by omega), if_pos (by omega), hY]
          rw [hE] at hs
          refine gc_pairByParts C (by decide) tw_759 (Nat.le_of_ble_eq_true rfl) rfl dX8_splitRows_45 pg mem hpg hm hr hq hr12 hq12 hba hbb (s0.1, s0.2.2) (by rw [← hY]; exact hs) hp hmem hA hB hL h2 (fun N ⟨n1, n2, n3, n4⟩ => ?_)
          rw [← hY] at n1 n2
          refine g_vret C hR dX8_splitRows_48 ?_
          first
            | exact (by rw [hE]; exact ⟨rfl, hL, h2, h3, fun _ _ _ _ _ _ _ => rfl⟩)
            | exact (by rw [hE]; exact ⟨rfl, n1, n2, n3.trans h3, fun o a b c e _ _ => n4 o a b c e⟩)
    · have hE : sqS pg mem 1 a b s0 = s0 := by rw [sqS, if_pos (by omega)]
      refine g_vret C hR dX8_splitRows_14 ?_
      first
        | exact (by rw [hE]; exact ⟨rfl, hL, h2, h3, fun _ _ _ _ _ _ _ => rfl⟩)
        | exact (by rw [hE]; exact ⟨rfl, n1, n2, n3.trans h3, fun o a b c e _ _ => n4 o a b c e⟩)
theorem gc_split2 {X : z_X} {cc : ByteArray} {own : String} {ret : Option FieldType} {dC nC : Nat} {M : zM} {pc : Nat} {lv : List (Option Value)} {st : List Value} (C : Cx cc own ret dC nC X) (hdep : 7 ≤ dC) {idx : Nat} (hl0 : Cond.methodLink own idx yX8_splitRows ∈ tT) (hcat : (st.map fun v => v.category).sum ≤ 8) (hlen : lv.length = nC) (hdec : decode cc pc = .ok (.invokestatic idx, 3)) (pg mem : Nat) (hpg : 1 ≤ pg ∧ pg ≤ 100) (hm : 3 ≤ mem ∧ mem ≤ 12) {r q : Nat} (hr : r < 20) (hq : q < 20) (hr12 : r ≠ 12) (hq12 : q ≠ 12) {a b : List (Int × Int)} (hba : zIn a) (hbb : zIn b) (hsep : (r < 15 ∨ (16 ≤ r ∧ r < 18)) ∧ (q < 15 ∨ (16 ≤ q ∧ q < 18))) (s0 : zS3) (hs : (sqS pg mem 1 a b s0).2.2.length ≤ 120) (hp : M 90 0 = (pg : Int)) (hmem : M 90 1 = (mem : Int)) (hA : zRow M r a) (hB : zRow M q b) (hL : zOut M s0.2.2) (h2 : M 89 2 = s0.1) (h3 : M 89 3 = s0.2.1) (kk : ∀ M' : zM, (zOut M' (sqS pg mem 1 a b s0).2.2 ∧ M' 89 2 = (sqS pg mem 1 a b s0).1 ∧ M' 89 3 = (sqS pg mem 1 a b s0).2.1 ∧ ∀ o, o ≠ 36 → o ≠ 37 → o ≠ 38 → o ≠ 89 → (o < 45 ∨ 48 ≤ o) → (o < 54 ∨ 57 ≤ o) → M' o = M o) → G X M' (pc + 3) lv st) : G X M pc lv (.int (jI (((2 : Nat) : Int))) :: .ref (zA X (3 * q)) :: .ref (zA X (3 * r)) :: .ref (zA X (89)) :: .ref (zA X (90)) :: st) := by
  refine g_callS (k := 5) C (c_split2 (zL X) pg mem hpg hm hr hq hr12 hq12 hba hbb hsep s0 hs M hp hmem hA hB hL h2 h3) mfX8_splitRows hl0 ⟨rfl, by decide +kernel, by decide +kernel, by decide +kernel⟩ ⟨hdep, by decide⟩ rfl rfl rfl hcat hlen hdec (fun v M' h => ?_)
  obtain ⟨rfl, h⟩ := h
  exact kk M' h
set_option maxHeartbeats 4000000 in
set_option maxRecDepth 10000 in
theorem c_split1 (l : Launch) (pg mem : Nat) (hpg : 1 ≤ pg ∧ pg ≤ 100) (hm : 3 ≤ mem ∧ mem ≤ 12) {r q : Nat} (hr : r < 20) (hq : q < 20) (hr12 : r ≠ 12) (hq12 : q ≠ 12) {a b : List (Int × Int)} (hba : zIn a) (hbb : zIn b) (hsep : (r < 14 ∨ (16 ≤ r ∧ r < 17)) ∧ (q < 14 ∨ (16 ≤ q ∧ q < 17))) (s0 : zS3) (hs : (sqS pg mem 2 a b s0).2.2.length ≤ 120) (M : zM) (hp : M 90 0 = (pg : Int)) (hmem : M 90 1 = (mem : Int)) (hA : zRow M r a) (hB : zRow M q b) (hL : zOut M s0.2.2) (h2 : M 89 2 = s0.1) (h3 : M 89 3 = s0.2.1) : Mt l 7 yX8_splitRows cX8_splitRows 9 none (fun ad => [.ref (ad (90)), .ref (ad (89)), .ref (ad (3 * r)), .ref (ad (3 * q)), .int (jI (((1 : Nat) : Int)))]) M (fun _ vv M' => vv = none ∧ (zOut M' (sqS pg mem 2 a b s0).2.2 ∧ M' 89 2 = (sqS pg mem 2 a b s0).1 ∧ M' 89 3 = (sqS pg mem 2 a b s0).2.1 ∧ ∀ o, o ≠ 36 → o ≠ 37 → o ≠ 38 → o ≠ 89 → (o < 42 ∨ 48 ≤ o) → (o < 51 ∨ 57 ≤ o) → M' o = M o)) := by
  refine Mt.of (fun ad => [some (.ref (ad (90))), some (.ref (ad (89))), some (.ref (ad (3 * r))), some (.ref (ad (3 * q))), some (.int (jI (((1 : Nat) : Int)))), none, none, none, none]) (by decide +kernel) (fun _ => rfl) (fun _ => rfl) (fun _ => Nat.le_of_ble_eq_true rfl) fun X hX C hR => ?_
  subst hX
  show G X M 0 [some (.ref ((zA X) (90))), some (.ref ((zA X) (89))), some (.ref ((zA X) (3 * r))), some (.ref ((zA X) (3 * q))), some (.int (jI (((1 : Nat) : Int)))), none, none, none, none] []
  have hA120 := hA.2.1
  have hB120 := hB.2.1
  have lp : ∀ (s1 : zS3), sqS pg mem 2 a b s0 = fdS (gsS pg mem 1 a b) (mem - 1) s1 → ∀ (fk : Nat) (k : Nat) (N : zM), 30 - k < fk → k ≤ mem - 1 → zOut N (fdS (gsS pg mem 1 a b) k s1).2.2 → N 89 2 = (fdS (gsS pg mem 1 a b) k s1).1 → N 89 3 = (fdS (gsS pg mem 1 a b) k s1).2.1 → (∀ o, o ≠ 36 → o ≠ 37 → o ≠ 38 → o ≠ 89 → (o < 42 ∨ 48 ≤ o) → (o < 51 ∨ 57 ≤ o) → N o = M o) → (fdS (gsS pg mem 1 a b) (mem - 1) s1).2.2.length ≤ 120 → G X N 92 [some (.ref (zA X 90)), some (.ref (zA X 89)), some (.ref (zA X (3 * r))), some (.ref (zA X (3 * q))), some (.int (jI (((1 : Nat) : Int)))), some (.int (jI ((mem : Int) - 1))), some (.int (jI ((k : Int)))), none, none] [] := by
    intro s1 hE fk
    induction fk with
    | zero => intro k N hk; exact absurd hk (Nat.not_lt_zero _)
    | succ fk ih =>
      intro k N hk k1 hO hr2 hw3 hF hlen
      have hA2 : zRow N r a := hA.same (fun o _ _ => hF o (by omega) (by omega) (by omega) (by omega) (by omega) (by omega))
      have hB2 : zRow N q b := hB.same (fun o _ _ => hF o (by omega) (by omega) (by omega) (by omega) (by omega) (by omega))
      have hp2 : N 90 0 = (pg : Int) := by rw [hF 90 (by omega) (by omega) (by omega) (by omega) (by omega) (by omega)]; exact hp
      have hm2 : N 90 1 = ((mem - 1 : Nat) : Int) + 1 := by rw [hF 90 (by omega) (by omega) (by omega) (by omega) (by omega) (by omega), hmem]; omega
      refine g_iload C dX8_splitRows_92 rfl ?_
      refine g_iload C dX8_splitRows_94 rfl ?_
      refine g_icmp_ge (tgt := 182) C dX8_splitRows_96 rfl (by omega) (by omega) (fun h96 => ?_) (fun h96 => ?_)
      · refine g_vret C hR dX8_splitRows_182 ?_
        obtain rfl : k = mem - 1 := by omega
        rw [hE]
        exact ⟨rfl, hO, hr2, hw3, hF⟩
      · refine g_aload_n C dX8_splitRows_99 rfl ?_
        refine g_aload_n C dX8_splitRows_100 rfl ?_
        refine g_iload C dX8_splitRows_101 rfl ?_
        refine g_iload C dX8_splitRows_103 rfl ?_
        refine gc_Spl_fillOne C (by decide) tw_764 (Nat.le_of_ble_eq_true rfl) rfl dX8_splitRows_105 hr (mem - 1) 1 (k : Int) (by omega) (by omega) (by omega) (by omega) hba hm2 hA2 (fun N1 ⟨u1, u2⟩ => ?_)
        refine g_astore C dX8_splitRows_108 (Nat.le_of_ble_eq_true rfl) ?_
        show G X _ 110 [_, _, _, _, _, _, _, _, _] _
        refine g_aload_n C dX8_splitRows_110 rfl ?_
        refine g_aload_n C dX8_splitRows_111 rfl ?_
        refine g_iload C dX8_splitRows_112 rfl ?_
        refine g_iload C dX8_splitRows_114 rfl ?_
        refine gc_Spl_fillOther C (by decide) tw_781 (Nat.le_of_ble_eq_true rfl) rfl dX8_splitRows_116 hq (mem - 1) 1 (k : Int) (by omega) (by omega) (by omega) (by omega) hbb (by rw [u2 90 (by omega) (by omega) (by omega)]; exact hm2) (hB2.apart u2 (by omega)) (fun N2 ⟨v1, v2⟩ => ?_)
        have u3 : zRow N2 (13 + 1) (spL ((mem - 1 : Nat) : Int) 1 (k : Int) a) := u1.apart v2 (by omega)
        have la := u3.2.1
        have lb := v1.2.1
        have f2 : ∀ o, (o < 42 ∨ 48 ≤ o) → (o < 51 ∨ 57 ≤ o) → N2 o = N o := fun o e1 e2 => (v2 o (by omega) (by omega) (by omega)).trans (u2 o (by omega) (by omega) (by omega))
        refine g_astore C dX8_splitRows_119 (Nat.le_of_ble_eq_true rfl) ?_
        show G X _ 121 [_, _, _, _, _, _, _, _, _] _
        refine g_aload_n C dX8_splitRows_121 rfl ?_
        refine g_dup C dX8_splitRows_122 rfl ?_
        refine gf_Out_writtenPages C tw_162 dX8_splitRows_123 ?_
        rw [f2 89 (by omega) (by omega), hw3]
        refine g_aload C dX8_splitRows_126 rfl ?_
        refine gc_Row_count C (by decide) tw_390 (Nat.le_of_ble_eq_true rfl) rfl dX8_splitRows_128 (r := 14) (by omega) u3 (?_)
        refine g_aload_n C dX8_splitRows_131 rfl ?_
        show G X _ 132 _ _
        refine gf_Spl_page C tw_185 dX8_splitRows_132 ?_
        rw [f2 90 (by omega) (by omega), hp2]
        refine gc_pagesFor C (by decide) tw_722 (Nat.le_of_ble_eq_true rfl) rfl dX8_splitRows_135 _ _ (by omega) (by omega) (?_)
        refine g_iadd C dX8_splitRows_138 ?_
        refine gp_Out_writtenPages C tw_162 dX8_splitRows_139 ?_
        refine g_aload_n C dX8_splitRows_142 rfl ?_
        refine g_dup C dX8_splitRows_143 rfl ?_
        show G X _ 144 _ _
        generalize hN3 : zu N2 89 3 _ = N3
        have c3 : ∀ o, o ≠ 89 → N3 o = N2 o := fun o h => by rw [← hN3, zu_o _ _ _ _ h]
        have c3w : N3 89 3 = (fdS (gsS pg mem 1 a b) k s1).2.1 + pgs ((spL ((mem - 1 : Nat) : Int) 1 (k : Int) a).length : Int) pg := by rw [← hN3, zu_s]
        have c3k : ∀ j, j ≠ 3 → N3 89 j = N2 89 j := fun j h => by rw [← hN3, zu_k _ _ _ _ h]
        refine gf_Out_writtenPages C tw_162 dX8_splitRows_144 ?_
        
        refine g_aload C dX8_splitRows_147 rfl ?_
        refine gc_Row_count C (by decide) tw_390 (Nat.le_of_ble_eq_true rfl) rfl dX8_splitRows_149 (r := 17) (by omega) (v1.same (fun o _ _ => c3 o (by omega))) (?_)
        refine g_aload_n C dX8_splitRows_152 rfl ?_
        refine gf_Spl_page C tw_185 dX8_splitRows_153 ?_
        rw [c3 90 (by omega), f2 90 (by omega) (by omega), hp2]
        refine gc_pagesFor C (by decide) tw_722 (Nat.le_of_ble_eq_true rfl) rfl dX8_splitRows_156 _ _ (by omega) (by omega) (?_)
        show G X _ 159 _ _
        refine g_iadd C dX8_splitRows_159 ?_
        refine gp_Out_writtenPages C tw_162 dX8_splitRows_160 ?_
        generalize hN4 : zu N3 89 3 _ = N4
        have c4 : ∀ o, o ≠ 89 → N4 o = N2 o := fun o h => by rw [← hN4, zu_o _ _ _ _ h]; exact c3 o h
        have c4w : N4 89 3 = (fdS (gsS pg mem 1 a b) k s1).2.1 + pgs ((spL ((mem - 1 : Nat) : Int) 1 (k : Int) a).length : Int) pg + pgs ((spL ((mem - 1 : Nat) : Int) 1 (k : Int) b).length : Int) pg := by rw [← hN4, zu_s, c3w]
        have c4k : ∀ j, j ≠ 3 → N4 89 j = N2 89 j := fun j h => by rw [← hN4, zu_k _ _ _ _ h]; exact c3k j h
        have hg : ∀ (k : Nat) (t : zS3), t.2.2.length ≤ ((gsS pg mem 1 a b) k t).2.2.length := fun k t => by
          unfold gsS
          refine Nat.le_trans ?_ (sqS_mono 1 _ _ _)
          exact Nat.le_refl _
        have hl1 := fdS_mono hg s1 (show k + 1 ≤ mem - 1 by omega)
        have hEq : fdS (gsS pg mem 1 a b) (k + 1) s1 = sqS pg mem 1 (spL ((mem - 1 : Nat) : Int) 1 (k : Int) a) (spL ((mem - 1 : Nat) : Int) 1 (k : Int) b) ((fdS (gsS pg mem 1 a b) k s1).1, (fdS (gsS pg mem 1 a b) k s1).2.1 + pgs ((spL ((mem - 1 : Nat) : Int) 1 (k : Int) a).length : Int) pg + pgs ((spL ((mem - 1 : Nat) : Int) 1 (k : Int) b).length : Int) pg, (fdS (gsS pg mem 1 a b) k s1).2.2) := rfl
        refine g_aload_n C dX8_splitRows_163 rfl ?_
        refine g_aload_n C dX8_splitRows_164 rfl ?_
        refine g_aload C dX8_splitRows_165 rfl ?_
        refine g_aload C dX8_splitRows_167 rfl ?_
        show G X _ 169 _ _
        refine g_iload C dX8_splitRows_169 rfl ?_
        refine g_iconst C dX8_splitRows_171 ?_
        refine g_iadd C dX8_splitRows_172 ?_
        rw [show ((1 : Nat) : Int) + 1 = ((2 : Nat) : Int) from rfl]
        refine gc_split2 C (by decide) tw_756 (Nat.le_of_ble_eq_true rfl) rfl dX8_splitRows_173 pg mem hpg hm (r := 14) (q := 17) (by omega) (by omega) (by omega) (by omega) (zIn.spL hba) (zIn.spL hbb) (by omega) ((fdS (gsS pg mem 1 a b) k s1).1, (fdS (gsS pg mem 1 a b) k s1).2.1 + pgs ((spL ((mem - 1 : Nat) : Int) 1 (k : Int) a).length : Int) pg + pgs ((spL ((mem - 1 : Nat) : Int) 1 (k : Int) b).length : Int) pg, (fdS (gsS pg mem 1 a b) k s1).2.2) (by rw [← hEq]; exact Nat.le_trans hl1 hlen) (by rw [c4 90 (by omega), f2 90 (by omega) (by omega)]; exact hp2) (by rw [c4 90 (by omega), f2 90 (by omega) (by omega), hm2]; omega) (u3.same (fun o _ _ => c4 o (by omega))) (v1.same (fun o _ _ => c4 o (by omega))) (zOut.pages ⟨hO.1.same (fun o _ _ => f2 o (by omega) (by omega)), by rw [f2 89 (by omega) (by omega)]; exact hO.2⟩ c4 (c4k 1 (by omega))) (by rw [c4k 2 (by omega), f2 89 (by omega) (by omega)]; exact hr2) c4w (fun N5 ⟨w1, w2, w3, w4⟩ => ?_)
        rw [← hEq] at w1 w2 w3
        refine g_iinc C dX8_splitRows_176 rfl ?_
        show G X _ 179 [_, _, _, _, _, _, _, _, _] _
        refine g_goto (tgt := 92) C dX8_splitRows_179 rfl ?_
        show G X _ 92 _ _
        refine g_mask [true, true, true, true, true, true, true, false, false] rfl ?_
        show G X _ 92 [_, _, _, _, _, _, _, _, _] _
        exact ih (k + 1) N5 (by omega) (by omega) w1 w2 w3 (fun o e1 e2 e3 e4 e5 e6 => (w4 o e1 e2 e3 e4 (by omega) (by omega)).trans ((c4 o e4).trans ((f2 o e5 e6).trans (hF o e1 e2 e3 e4 e5 e6)))) hlen
  refine g_aload_n C dX8_splitRows_0 rfl ?_
  refine gc_Row_count C (by decide) tw_390 (Nat.le_of_ble_eq_true rfl) rfl dX8_splitRows_1 hr hA (?_)
  refine g_if_eq (tgt := 14) C dX8_splitRows_4 rfl (by omega) (fun h4 => ?_) (fun h4 => ?_)
  · have hE : sqS pg mem 2 a b s0 = s0 := by rw [sqS, if_pos (by omega)]
    refine g_vret C hR dX8_splitRows_14 ?_
    first
      | exact (by rw [hE]; exact ⟨rfl, hL, h2, h3, fun _ _ _ _ _ _ _ => rfl⟩)
      | exact (by rw [hE]; exact ⟨rfl, n1, n2, n3.trans h3, fun o a b c e _ _ => n4 o a b c e⟩)
  · refine g_aload_n C dX8_splitRows_7 rfl ?_
    refine gc_Row_count C (by decide) tw_390 (Nat.le_of_ble_eq_true rfl) rfl dX8_splitRows_8 hq hB (?_)
    refine g_if_ne (tgt := 15) C dX8_splitRows_11 rfl (by omega) (fun h11 => ?_) (fun h11 => ?_)
    · refine g_iload C dX8_splitRows_15 rfl ?_
      refine g_iconst C dX8_splitRows_17 ?_
      refine g_icmp_ge (tgt := 41) C dX8_splitRows_18 rfl (by omega) (by omega) (fun h18 => ?_) (fun h18 => ?_)
      · omega
      · refine g_aload_n C dX8_splitRows_21 rfl ?_
        refine gc_Row_count C (by decide) tw_390 (Nat.le_of_ble_eq_true rfl) rfl dX8_splitRows_22 hq hB (?_)
        refine g_aload_n C dX8_splitRows_25 rfl ?_
        refine gf_Spl_page C tw_185 dX8_splitRows_26 ?_
        rw [hp]
        have hpb := pgs_in (a := (b.length : Int)) (b := (pg : Int)) (by omega) (by omega)
        refine gc_pagesFor C (by decide) tw_722 (Nat.le_of_ble_eq_true rfl) rfl dX8_splitRows_29 _ _ (by omega) (by omega) (?_)
        refine g_aload_n C dX8_splitRows_32 rfl ?_
        show G X _ 33 _ _
        refine gf_Spl_memory C tw_187 dX8_splitRows_33 ?_
        rw [hmem]
        refine g_iconst C dX8_splitRows_36 ?_
        refine g_isub C dX8_splitRows_37 ?_
        refine g_icmp_gt (tgt := 49) C dX8_splitRows_38 rfl (by omega) (by omega) (fun h38 => ?_) (fun h38 => ?_)
        · refine g_aload_n C dX8_splitRows_49 rfl ?_
          refine g_dup C dX8_splitRows_50 rfl ?_
          refine gf_Out_readPages C tw_160 dX8_splitRows_51 ?_
          rw [h2]
          refine g_aload_n C dX8_splitRows_54 rfl ?_
          refine gc_Row_count C (by decide) tw_390 (Nat.le_of_ble_eq_true rfl) rfl dX8_splitRows_55 hr hA (?_)
          refine g_aload_n C dX8_splitRows_58 rfl ?_
          show G X _ 59 _ _
          refine gf_Spl_page C tw_185 dX8_splitRows_59 ?_
          rw [hp]
          refine gc_pagesFor C (by decide) tw_722 (Nat.le_of_ble_eq_true rfl) rfl dX8_splitRows_62 _ _ (by omega) (by omega) (?_)
          refine g_aload_n C dX8_splitRows_65 rfl ?_
          refine gc_Row_count C (by decide) tw_390 (Nat.le_of_ble_eq_true rfl) rfl dX8_splitRows_66 hq hB (?_)
          refine g_aload_n C dX8_splitRows_69 rfl ?_
          refine gf_Spl_page C tw_185 dX8_splitRows_70 ?_
          rw [hp]
          show G X _ 73 _ _
          refine gc_pagesFor C (by decide) tw_722 (Nat.le_of_ble_eq_true rfl) rfl dX8_splitRows_73 _ _ (by omega) (by omega) (?_)
          refine g_iadd C dX8_splitRows_76 ?_
          refine g_iadd C dX8_splitRows_77 ?_
          refine gp_Out_readPages C tw_160 dX8_splitRows_78 ?_
          refine g_aload_n C dX8_splitRows_81 rfl ?_
          refine gf_Spl_memory C tw_187 dX8_splitRows_82 ?_
          rw [zu_o _ _ _ _ (by omega), hmem]
          show G X _ 85 _ _
          refine g_iconst C dX8_splitRows_85 ?_
          refine g_isub C dX8_splitRows_86 ?_
          refine g_istore C dX8_splitRows_87 (Nat.le_of_ble_eq_true rfl) ?_
          show G X _ 89 [_, _, _, _, _, _, _, _, _] _
          refine g_iconst C dX8_splitRows_89 ?_
          refine g_istore C dX8_splitRows_90 (Nat.le_of_ble_eq_true rfl) ?_
          show G X _ 92 [_, _, _, _, _, _, _, _, _] _
          have hE : sqS pg mem 2 a b s0 = fdS (gsS pg mem 1 a b) (mem - 1) (s0.1 + (pgs (a.length : Int) pg + pgs (b.length : Int) pg), s0.2.1, s0.2.2) := by rw [sqS, if_neg (by omega), if_neg (by omega)]; rfl
          exact lp (s0.1 + (pgs (a.length : Int) pg + pgs (b.length : Int) pg), s0.2.1, s0.2.2) hE 100 0 _ (by omega) (by omega) (hL.pages (fun o h => zu_o _ _ _ _ h) (zu_k _ _ _ _ (by omega))) (zu_s _ _ _ _) (by rw [zu_k _ _ _ _ (by omega)]; exact h3) (fun o _ _ _ e _ _ => zu_o _ _ _ _ e) (by rw [← hE]; exact hs)
        · refine g_aload_n C dX8_splitRows_41 rfl ?_
          refine g_aload_n C dX8_splitRows_42 rfl ?_
          refine g_aload_n C dX8_splitRows_43 rfl ?_
          refine g_aload_n C dX8_splitRows_44 rfl ?_
          obtain ⟨Y, hY⟩ : ∃ Y, Y = pbS a b pg ((mem - 2) * pg) 200 0 (s0.1, s0.2.2) := ⟨_, rfl⟩
          have hE : sqS pg mem 2 a b s0 = (Y.1, s0.2.1, Y.2) := by rw [sqS, if_neg (by omega), if_pos (by omega), hY]
          rw [hE] at hs
          refine gc_pairByParts C (by decide) tw_759 (Nat.le_of_ble_eq_true rfl) rfl dX8_splitRows_45 pg mem hpg hm hr hq hr12 hq12 hba hbb (s0.1, s0.2.2) (by rw [← hY]; exact hs) hp hmem hA hB hL h2 (fun N ⟨n1, n2, n3, n4⟩ => ?_)
          rw [← hY] at n1 n2
          refine g_vret C hR dX8_splitRows_48 ?_
          first
            | exact (by rw [hE]; exact ⟨rfl, hL, h2, h3, fun _ _ _ _ _ _ _ => rfl⟩)
            | exact (by rw [hE]; exact ⟨rfl, n1, n2, n3.trans h3, fun o a b c e _ _ => n4 o a b c e⟩)
    · have hE : sqS pg mem 2 a b s0 = s0 := by rw [sqS, if_pos (by omega)]
      refine g_vret C hR dX8_splitRows_14 ?_
      first
        | exact (by rw [hE]; exact ⟨rfl, hL, h2, h3, fun _ _ _ _ _ _ _ => rfl⟩)
        | exact (by rw [hE]; exact ⟨rfl, n1, n2, n3.trans h3, fun o a b c e _ _ => n4 o a b c e⟩)
theorem gc_split1 {X : z_X} {cc : ByteArray} {own : String} {ret : Option FieldType} {dC nC : Nat} {M : zM} {pc : Nat} {lv : List (Option Value)} {st : List Value} (C : Cx cc own ret dC nC X) (hdep : 8 ≤ dC) {idx : Nat} (hl0 : Cond.methodLink own idx yX8_splitRows ∈ tT) (hcat : (st.map fun v => v.category).sum ≤ 8) (hlen : lv.length = nC) (hdec : decode cc pc = .ok (.invokestatic idx, 3)) (pg mem : Nat) (hpg : 1 ≤ pg ∧ pg ≤ 100) (hm : 3 ≤ mem ∧ mem ≤ 12) {r q : Nat} (hr : r < 20) (hq : q < 20) (hr12 : r ≠ 12) (hq12 : q ≠ 12) {a b : List (Int × Int)} (hba : zIn a) (hbb : zIn b) (hsep : (r < 14 ∨ (16 ≤ r ∧ r < 17)) ∧ (q < 14 ∨ (16 ≤ q ∧ q < 17))) (s0 : zS3) (hs : (sqS pg mem 2 a b s0).2.2.length ≤ 120) (hp : M 90 0 = (pg : Int)) (hmem : M 90 1 = (mem : Int)) (hA : zRow M r a) (hB : zRow M q b) (hL : zOut M s0.2.2) (h2 : M 89 2 = s0.1) (h3 : M 89 3 = s0.2.1) (kk : ∀ M' : zM, (zOut M' (sqS pg mem 2 a b s0).2.2 ∧ M' 89 2 = (sqS pg mem 2 a b s0).1 ∧ M' 89 3 = (sqS pg mem 2 a b s0).2.1 ∧ ∀ o, o ≠ 36 → o ≠ 37 → o ≠ 38 → o ≠ 89 → (o < 42 ∨ 48 ≤ o) → (o < 51 ∨ 57 ≤ o) → M' o = M o) → G X M' (pc + 3) lv st) : G X M pc lv (.int (jI (((1 : Nat) : Int))) :: .ref (zA X (3 * q)) :: .ref (zA X (3 * r)) :: .ref (zA X (89)) :: .ref (zA X (90)) :: st) := by
  refine g_callS (k := 5) C (c_split1 (zL X) pg mem hpg hm hr hq hr12 hq12 hba hbb hsep s0 hs M hp hmem hA hB hL h2 h3) mfX8_splitRows hl0 ⟨rfl, by decide +kernel, by decide +kernel, by decide +kernel⟩ ⟨hdep, by decide⟩ rfl rfl rfl hcat hlen hdec (fun v M' h => ?_)
  obtain ⟨rfl, h⟩ := h
  exact kk M' h
set_option maxHeartbeats 4000000 in
set_option maxRecDepth 10000 in
theorem c_split0 (l : Launch) (pg mem : Nat) (hpg : 1 ≤ pg ∧ pg ≤ 100) (hm : 3 ≤ mem ∧ mem ≤ 12) {r q : Nat} (hr : r < 20) (hq : q < 20) (hr12 : r ≠ 12) (hq12 : q ≠ 12) {a b : List (Int × Int)} (hba : zIn a) (hbb : zIn b) (hsep : (r < 13 ∨ (16 ≤ r ∧ r < 16)) ∧ (q < 13 ∨ (16 ≤ q ∧ q < 16))) (s0 : zS3) (hs : (sqS pg mem 3 a b s0).2.2.length ≤ 120) (M : zM) (hp : M 90 0 = (pg : Int)) (hmem : M 90 1 = (mem : Int)) (hA : zRow M r a) (hB : zRow M q b) (hL : zOut M s0.2.2) (h2 : M 89 2 = s0.1) (h3 : M 89 3 = s0.2.1) : Mt l 8 yX8_splitRows cX8_splitRows 9 none (fun ad => [.ref (ad (90)), .ref (ad (89)), .ref (ad (3 * r)), .ref (ad (3 * q)), .int (jI (((0 : Nat) : Int)))]) M (fun _ vv M' => vv = none ∧ (zOut M' (sqS pg mem 3 a b s0).2.2 ∧ M' 89 2 = (sqS pg mem 3 a b s0).1 ∧ M' 89 3 = (sqS pg mem 3 a b s0).2.1 ∧ ∀ o, o ≠ 36 → o ≠ 37 → o ≠ 38 → o ≠ 89 → (o < 39 ∨ 48 ≤ o) → (o < 48 ∨ 57 ≤ o) → M' o = M o)) := by
  refine Mt.of (fun ad => [some (.ref (ad (90))), some (.ref (ad (89))), some (.ref (ad (3 * r))), some (.ref (ad (3 * q))), some (.int (jI (((0 : Nat) : Int)))), none, none, none, none]) (by decide +kernel) (fun _ => rfl) (fun _ => rfl) (fun _ => Nat.le_of_ble_eq_true rfl) fun X hX C hR => ?_
  subst hX
  show G X M 0 [some (.ref ((zA X) (90))), some (.ref ((zA X) (89))), some (.ref ((zA X) (3 * r))), some (.ref ((zA X) (3 * q))), some (.int (jI (((0 : Nat) : Int)))), none, none, none, none] []
  have hA120 := hA.2.1
  have hB120 := hB.2.1
  have lp : ∀ (s1 : zS3), sqS pg mem 3 a b s0 = fdS (gsS pg mem 2 a b) (mem - 1) s1 → ∀ (fk : Nat) (k : Nat) (N : zM), 30 - k < fk → k ≤ mem - 1 → zOut N (fdS (gsS pg mem 2 a b) k s1).2.2 → N 89 2 = (fdS (gsS pg mem 2 a b) k s1).1 → N 89 3 = (fdS (gsS pg mem 2 a b) k s1).2.1 → (∀ o, o ≠ 36 → o ≠ 37 → o ≠ 38 → o ≠ 89 → (o < 39 ∨ 48 ≤ o) → (o < 48 ∨ 57 ≤ o) → N o = M o) → (fdS (gsS pg mem 2 a b) (mem - 1) s1).2.2.length ≤ 120 → G X N 92 [some (.ref (zA X 90)), some (.ref (zA X 89)), some (.ref (zA X (3 * r))), some (.ref (zA X (3 * q))), some (.int (jI (((0 : Nat) : Int)))), some (.int (jI ((mem : Int) - 1))), some (.int (jI ((k : Int)))), none, none] [] := by
    intro s1 hE fk
    induction fk with
    | zero => intro k N hk; exact absurd hk (Nat.not_lt_zero _)
    | succ fk ih =>
      intro k N hk k1 hO hr2 hw3 hF hlen
      have hA2 : zRow N r a := hA.same (fun o _ _ => hF o (by omega) (by omega) (by omega) (by omega) (by omega) (by omega))
      have hB2 : zRow N q b := hB.same (fun o _ _ => hF o (by omega) (by omega) (by omega) (by omega) (by omega) (by omega))
      have hp2 : N 90 0 = (pg : Int) := by rw [hF 90 (by omega) (by omega) (by omega) (by omega) (by omega) (by omega)]; exact hp
      have hm2 : N 90 1 = ((mem - 1 : Nat) : Int) + 1 := by rw [hF 90 (by omega) (by omega) (by omega) (by omega) (by omega) (by omega), hmem]; omega
      refine g_iload C dX8_splitRows_92 rfl ?_
      refine g_iload C dX8_splitRows_94 rfl ?_
      refine g_icmp_ge (tgt := 182) C dX8_splitRows_96 rfl (by omega) (by omega) (fun h96 => ?_) (fun h96 => ?_)
      · refine g_vret C hR dX8_splitRows_182 ?_
        obtain rfl : k = mem - 1 := by omega
        rw [hE]
        exact ⟨rfl, hO, hr2, hw3, hF⟩
      · refine g_aload_n C dX8_splitRows_99 rfl ?_
        refine g_aload_n C dX8_splitRows_100 rfl ?_
        refine g_iload C dX8_splitRows_101 rfl ?_
        refine g_iload C dX8_splitRows_103 rfl ?_
        refine gc_Spl_fillOne C (by decide) tw_764 (Nat.le_of_ble_eq_true rfl) rfl dX8_splitRows_105 hr (mem - 1) 0 (k : Int) (by omega) (by omega) (by omega) (by omega) hba hm2 hA2 (fun N1 ⟨u1, u2⟩ => ?_)
        refine g_astore C dX8_splitRows_108 (Nat.le_of_ble_eq_true rfl) ?_
        show G X _ 110 [_, _, _, _, _, _, _, _, _] _
        refine g_aload_n C dX8_splitRows_110 rfl ?_
        refine g_aload_n C dX8_splitRows_111 rfl ?_
        refine g_iload C dX8_splitRows_112 rfl ?_
        refine g_iload C dX8_splitRows_114 rfl ?_
        refine gc_Spl_fillOther C (by decide) tw_781 (Nat.le_of_ble_eq_true rfl) rfl dX8_splitRows_116 hq (mem - 1) 0 (k : Int) (by omega) (by omega) (by omega) (by omega) hbb (by rw [u2 90 (by omega) (by omega) (by omega)]; exact hm2) (hB2.apart u2 (by omega)) (fun N2 ⟨v1, v2⟩ => ?_)
        have u3 : zRow N2 (13 + 0) (spL ((mem - 1 : Nat) : Int) 0 (k : Int) a) := u1.apart v2 (by omega)
        have la := u3.2.1
        have lb := v1.2.1
        have f2 : ∀ o, (o < 39 ∨ 48 ≤ o) → (o < 48 ∨ 57 ≤ o) → N2 o = N o := fun o e1 e2 => (v2 o (by omega) (by omega) (by omega)).trans (u2 o (by omega) (by omega) (by omega))
        refine g_astore C dX8_splitRows_119 (Nat.le_of_ble_eq_true rfl) ?_
        show G X _ 121 [_, _, _, _, _, _, _, _, _] _
        refine g_aload_n C dX8_splitRows_121 rfl ?_
        refine g_dup C dX8_splitRows_122 rfl ?_
        refine gf_Out_writtenPages C tw_162 dX8_splitRows_123 ?_
        rw [f2 89 (by omega) (by omega), hw3]
        refine g_aload C dX8_splitRows_126 rfl ?_
        refine gc_Row_count C (by decide) tw_390 (Nat.le_of_ble_eq_true rfl) rfl dX8_splitRows_128 (r := 13) (by omega) u3 (?_)
        refine g_aload_n C dX8_splitRows_131 rfl ?_
        show G X _ 132 _ _
        refine gf_Spl_page C tw_185 dX8_splitRows_132 ?_
        rw [f2 90 (by omega) (by omega), hp2]
        refine gc_pagesFor C (by decide) tw_722 (Nat.le_of_ble_eq_true rfl) rfl dX8_splitRows_135 _ _ (by omega) (by omega) (?_)
        refine g_iadd C dX8_splitRows_138 ?_
        refine gp_Out_writtenPages C tw_162 dX8_splitRows_139 ?_
        refine g_aload_n C dX8_splitRows_142 rfl ?_
        refine g_dup C dX8_splitRows_143 rfl ?_
        show G X _ 144 _ _
        generalize hN3 : zu N2 89 3 _ = N3
        have c3 : ∀ o, o ≠ 89 → N3 o = N2 o := fun o h => by rw [← hN3, zu_o _ _ _ _ h]
        have c3w : N3 89 3 = (fdS (gsS pg mem 2 a b) k s1).2.1 + pgs ((spL ((mem - 1 : Nat) : Int) 0 (k : Int) a).length : Int) pg := by rw [← hN3, zu_s]
        have c3k : ∀ j, j ≠ 3 → N3 89 j = N2 89 j := fun j h => by rw [← hN3, zu_k _ _ _ _ h]
        refine gf_Out_writtenPages C tw_162 dX8_splitRows_144 ?_
        
        refine g_aload C dX8_splitRows_147 rfl ?_
        refine gc_Row_count C (by decide) tw_390 (Nat.le_of_ble_eq_true rfl) rfl dX8_splitRows_149 (r := 16) (by omega) (v1.same (fun o _ _ => c3 o (by omega))) (?_)
        refine g_aload_n C dX8_splitRows_152 rfl ?_
        refine gf_Spl_page C tw_185 dX8_splitRows_153 ?_
        rw [c3 90 (by omega), f2 90 (by omega) (by omega), hp2]
        refine gc_pagesFor C (by decide) tw_722 (Nat.le_of_ble_eq_true rfl) rfl dX8_splitRows_156 _ _ (by omega) (by omega) (?_)
        show G X _ 159 _ _
        refine g_iadd C dX8_splitRows_159 ?_
        refine gp_Out_writtenPages C tw_162 dX8_splitRows_160 ?_
        generalize hN4 : zu N3 89 3 _ = N4
        have c4 : ∀ o, o ≠ 89 → N4 o = N2 o := fun o h => by rw [← hN4, zu_o _ _ _ _ h]; exact c3 o h
        have c4w : N4 89 3 = (fdS (gsS pg mem 2 a b) k s1).2.1 + pgs ((spL ((mem - 1 : Nat) : Int) 0 (k : Int) a).length : Int) pg + pgs ((spL ((mem - 1 : Nat) : Int) 0 (k : Int) b).length : Int) pg := by rw [← hN4, zu_s, c3w]
        have c4k : ∀ j, j ≠ 3 → N4 89 j = N2 89 j := fun j h => by rw [← hN4, zu_k _ _ _ _ h]; exact c3k j h
        have hg : ∀ (k : Nat) (t : zS3), t.2.2.length ≤ ((gsS pg mem 2 a b) k t).2.2.length := fun k t => by
          unfold gsS
          refine Nat.le_trans ?_ (sqS_mono 2 _ _ _)
          exact Nat.le_refl _
        have hl1 := fdS_mono hg s1 (show k + 1 ≤ mem - 1 by omega)
        have hEq : fdS (gsS pg mem 2 a b) (k + 1) s1 = sqS pg mem 2 (spL ((mem - 1 : Nat) : Int) 0 (k : Int) a) (spL ((mem - 1 : Nat) : Int) 0 (k : Int) b) ((fdS (gsS pg mem 2 a b) k s1).1, (fdS (gsS pg mem 2 a b) k s1).2.1 + pgs ((spL ((mem - 1 : Nat) : Int) 0 (k : Int) a).length : Int) pg + pgs ((spL ((mem - 1 : Nat) : Int) 0 (k : Int) b).length : Int) pg, (fdS (gsS pg mem 2 a b) k s1).2.2) := rfl
        refine g_aload_n C dX8_splitRows_163 rfl ?_
        refine g_aload_n C dX8_splitRows_164 rfl ?_
        refine g_aload C dX8_splitRows_165 rfl ?_
        refine g_aload C dX8_splitRows_167 rfl ?_
        show G X _ 169 _ _
        refine g_iload C dX8_splitRows_169 rfl ?_
        refine g_iconst C dX8_splitRows_171 ?_
        refine g_iadd C dX8_splitRows_172 ?_
        rw [show ((0 : Nat) : Int) + 1 = ((1 : Nat) : Int) from rfl]
        refine gc_split1 C (by decide) tw_756 (Nat.le_of_ble_eq_true rfl) rfl dX8_splitRows_173 pg mem hpg hm (r := 13) (q := 16) (by omega) (by omega) (by omega) (by omega) (zIn.spL hba) (zIn.spL hbb) (by omega) ((fdS (gsS pg mem 2 a b) k s1).1, (fdS (gsS pg mem 2 a b) k s1).2.1 + pgs ((spL ((mem - 1 : Nat) : Int) 0 (k : Int) a).length : Int) pg + pgs ((spL ((mem - 1 : Nat) : Int) 0 (k : Int) b).length : Int) pg, (fdS (gsS pg mem 2 a b) k s1).2.2) (by rw [← hEq]; exact Nat.le_trans hl1 hlen) (by rw [c4 90 (by omega), f2 90 (by omega) (by omega)]; exact hp2) (by rw [c4 90 (by omega), f2 90 (by omega) (by omega), hm2]; omega) (u3.same (fun o _ _ => c4 o (by omega))) (v1.same (fun o _ _ => c4 o (by omega))) (zOut.pages ⟨hO.1.same (fun o _ _ => f2 o (by omega) (by omega)), by rw [f2 89 (by omega) (by omega)]; exact hO.2⟩ c4 (c4k 1 (by omega))) (by rw [c4k 2 (by omega), f2 89 (by omega) (by omega)]; exact hr2) c4w (fun N5 ⟨w1, w2, w3, w4⟩ => ?_)
        rw [← hEq] at w1 w2 w3
        refine g_iinc C dX8_splitRows_176 rfl ?_
        show G X _ 179 [_, _, _, _, _, _, _, _, _] _
        refine g_goto (tgt := 92) C dX8_splitRows_179 rfl ?_
        show G X _ 92 _ _
        refine g_mask [true, true, true, true, true, true, true, false, false] rfl ?_
        show G X _ 92 [_, _, _, _, _, _, _, _, _] _
        exact ih (k + 1) N5 (by omega) (by omega) w1 w2 w3 (fun o e1 e2 e3 e4 e5 e6 => (w4 o e1 e2 e3 e4 (by omega) (by omega)).trans ((c4 o e4).trans ((f2 o e5 e6).trans (hF o e1 e2 e3 e4 e5 e6)))) hlen
  refine g_aload_n C dX8_splitRows_0 rfl ?_
  refine gc_Row_count C (by decide) tw_390 (Nat.le_of_ble_eq_true rfl) rfl dX8_splitRows_1 hr hA (?_)
  refine g_if_eq (tgt := 14) C dX8_splitRows_4 rfl (by omega) (fun h4 => ?_) (fun h4 => ?_)
  · have hE : sqS pg mem 3 a b s0 = s0 := by rw [sqS, if_pos (by omega)]
    refine g_vret C hR dX8_splitRows_14 ?_
    first
      | exact (by rw [hE]; exact ⟨rfl, hL, h2, h3, fun _ _ _ _ _ _ _ => rfl⟩)
      | exact (by rw [hE]; exact ⟨rfl, n1, n2, n3.trans h3, fun o a b c e _ _ => n4 o a b c e⟩)
  · refine g_aload_n C dX8_splitRows_7 rfl ?_
    refine gc_Row_count C (by decide) tw_390 (Nat.le_of_ble_eq_true rfl) rfl dX8_splitRows_8 hq hB (?_)
    refine g_if_ne (tgt := 15) C dX8_splitRows_11 rfl (by omega) (fun h11 => ?_) (fun h11 => ?_)
    · refine g_iload C dX8_splitRows_15 rfl ?_
      refine g_iconst C dX8_splitRows_17 ?_
      refine g_icmp_ge (tgt := 41) C dX8_splitRows_18 rfl (by omega) (by omega) (fun h18 => ?_) (fun h18 => ?_)
      · omega
      · refine g_aload_n C dX8_splitRows_21 rfl ?_
        refine gc_Row_count C (by decide) tw_390 (Nat.le_of_ble_eq_true rfl) rfl dX8_splitRows_22 hq hB (?_)
        refine g_aload_n C dX8_splitRows_25 rfl ?_
        refine gf_Spl_page C tw_185 dX8_splitRows_26 ?_
        rw [hp]
        have hpb := pgs_in (a := (b.length : Int)) (b := (pg : Int)) (by omega) (by omega)
        refine gc_pagesFor C (by decide) tw_722 (Nat.le_of_ble_eq_true rfl) rfl dX8_splitRows_29 _ _ (by omega) (by omega) (?_)
        refine g_aload_n C dX8_splitRows_32 rfl ?_
        show G X _ 33 _ _
        refine gf_Spl_memory C tw_187 dX8_splitRows_33 ?_
        rw [hmem]
        refine g_iconst C dX8_splitRows_36 ?_
        refine g_isub C dX8_splitRows_37 ?_
        refine g_icmp_gt (tgt := 49) C dX8_splitRows_38 rfl (by omega) (by omega) (fun h38 => ?_) (fun h38 => ?_)
        · refine g_aload_n C dX8_splitRows_49 rfl ?_
          refine g_dup C dX8_splitRows_50 rfl ?_
          refine gf_Out_readPages C tw_160 dX8_splitRows_51 ?_
          rw [h2]
          refine g_aload_n C dX8_splitRows_54 rfl ?_
          refine gc_Row_count C (by decide) tw_390 (Nat.le_of_ble_eq_true rfl) rfl dX8_splitRows_55 hr hA (?_)
          refine g_aload_n C dX8_splitRows_58 rfl ?_
          show G X _ 59 _ _
          refine gf_Spl_page C tw_185 dX8_splitRows_59 ?_
          rw [hp]
          refine gc_pagesFor C (by decide) tw_722 (Nat.le_of_ble_eq_true rfl) rfl dX8_splitRows_62 _ _ (by omega) (by omega) (?_)
          refine g_aload_n C dX8_splitRows_65 rfl ?_
          refine gc_Row_count C (by decide) tw_390 (Nat.le_of_ble_eq_true rfl) rfl dX8_splitRows_66 hq hB (?_)
          refine g_aload_n C dX8_splitRows_69 rfl ?_
          refine gf_Spl_page C tw_185 dX8_splitRows_70 ?_
          rw [hp]
          show G X _ 73 _ _
          refine gc_pagesFor C (by decide) tw_722 (Nat.le_of_ble_eq_true rfl) rfl dX8_splitRows_73 _ _ (by omega) (by omega) (?_)
          refine g_iadd C dX8_splitRows_76 ?_
          refine g_iadd C dX8_splitRows_77 ?_
          refine gp_Out_readPages C tw_160 dX8_splitRows_78 ?_
          refine g_aload_n C dX8_splitRows_81 rfl ?_
          refine gf_Spl_memory C tw_187 dX8_splitRows_82 ?_
          rw [zu_o _ _ _ _ (by omega), hmem]
          show G X _ 85 _ _
          refine g_iconst C dX8_splitRows_85 ?_
          refine g_isub C dX8_splitRows_86 ?_
          refine g_istore C dX8_splitRows_87 (Nat.le_of_ble_eq_true rfl) ?_
          show G X _ 89 [_, _, _, _, _, _, _, _, _] _
          refine g_iconst C dX8_splitRows_89 ?_
          refine g_istore C dX8_splitRows_90 (Nat.le_of_ble_eq_true rfl) ?_
          show G X _ 92 [_, _, _, _, _, _, _, _, _] _
          have hE : sqS pg mem 3 a b s0 = fdS (gsS pg mem 2 a b) (mem - 1) (s0.1 + (pgs (a.length : Int) pg + pgs (b.length : Int) pg), s0.2.1, s0.2.2) := by rw [sqS, if_neg (by omega), if_neg (by omega)]; rfl
          exact lp (s0.1 + (pgs (a.length : Int) pg + pgs (b.length : Int) pg), s0.2.1, s0.2.2) hE 100 0 _ (by omega) (by omega) (hL.pages (fun o h => zu_o _ _ _ _ h) (zu_k _ _ _ _ (by omega))) (zu_s _ _ _ _) (by rw [zu_k _ _ _ _ (by omega)]; exact h3) (fun o _ _ _ e _ _ => zu_o _ _ _ _ e) (by rw [← hE]; exact hs)
        · refine g_aload_n C dX8_splitRows_41 rfl ?_
          refine g_aload_n C dX8_splitRows_42 rfl ?_
          refine g_aload_n C dX8_splitRows_43 rfl ?_
          refine g_aload_n C dX8_splitRows_44 rfl ?_
          obtain ⟨Y, hY⟩ : ∃ Y, Y = pbS a b pg ((mem - 2) * pg) 200 0 (s0.1, s0.2.2) := ⟨_, rfl⟩
          have hE : sqS pg mem 3 a b s0 = (Y.1, s0.2.1, Y.2) := by rw [sqS, if_neg (by omega), if_pos (by omega), hY]
          rw [hE] at hs
          refine gc_pairByParts C (by decide) tw_759 (Nat.le_of_ble_eq_true rfl) rfl dX8_splitRows_45 pg mem hpg hm hr hq hr12 hq12 hba hbb (s0.1, s0.2.2) (by rw [← hY]; exact hs) hp hmem hA hB hL h2 (fun N ⟨n1, n2, n3, n4⟩ => ?_)
          rw [← hY] at n1 n2
          refine g_vret C hR dX8_splitRows_48 ?_
          first
            | exact (by rw [hE]; exact ⟨rfl, hL, h2, h3, fun _ _ _ _ _ _ _ => rfl⟩)
            | exact (by rw [hE]; exact ⟨rfl, n1, n2, n3.trans h3, fun o a b c e _ _ => n4 o a b c e⟩)
    · have hE : sqS pg mem 3 a b s0 = s0 := by rw [sqS, if_pos (by omega)]
      refine g_vret C hR dX8_splitRows_14 ?_
      first
        | exact (by rw [hE]; exact ⟨rfl, hL, h2, h3, fun _ _ _ _ _ _ _ => rfl⟩)
        | exact (by rw [hE]; exact ⟨rfl, n1, n2, n3.trans h3, fun o a b c e _ _ => n4 o a b c e⟩)
theorem gc_split0 {X : z_X} {cc : ByteArray} {own : String} {ret : Option FieldType} {dC nC : Nat} {M : zM} {pc : Nat} {lv : List (Option Value)} {st : List Value} (C : Cx cc own ret dC nC X) (hdep : 9 ≤ dC) {idx : Nat} (hl0 : Cond.methodLink own idx yX8_splitRows ∈ tT) (hcat : (st.map fun v => v.category).sum ≤ 8) (hlen : lv.length = nC) (hdec : decode cc pc = .ok (.invokestatic idx, 3)) (pg mem : Nat) (hpg : 1 ≤ pg ∧ pg ≤ 100) (hm : 3 ≤ mem ∧ mem ≤ 12) {r q : Nat} (hr : r < 20) (hq : q < 20) (hr12 : r ≠ 12) (hq12 : q ≠ 12) {a b : List (Int × Int)} (hba : zIn a) (hbb : zIn b) (hsep : (r < 13 ∨ (16 ≤ r ∧ r < 16)) ∧ (q < 13 ∨ (16 ≤ q ∧ q < 16))) (s0 : zS3) (hs : (sqS pg mem 3 a b s0).2.2.length ≤ 120) (hp : M 90 0 = (pg : Int)) (hmem : M 90 1 = (mem : Int)) (hA : zRow M r a) (hB : zRow M q b) (hL : zOut M s0.2.2) (h2 : M 89 2 = s0.1) (h3 : M 89 3 = s0.2.1) (kk : ∀ M' : zM, (zOut M' (sqS pg mem 3 a b s0).2.2 ∧ M' 89 2 = (sqS pg mem 3 a b s0).1 ∧ M' 89 3 = (sqS pg mem 3 a b s0).2.1 ∧ ∀ o, o ≠ 36 → o ≠ 37 → o ≠ 38 → o ≠ 89 → (o < 39 ∨ 48 ≤ o) → (o < 48 ∨ 57 ≤ o) → M' o = M o) → G X M' (pc + 3) lv st) : G X M pc lv (.int (jI (((0 : Nat) : Int))) :: .ref (zA X (3 * q)) :: .ref (zA X (3 * r)) :: .ref (zA X (89)) :: .ref (zA X (90)) :: st) := by
  refine g_callS (k := 5) C (c_split0 (zL X) pg mem hpg hm hr hq hr12 hq12 hba hbb hsep s0 hs M hp hmem hA hB hL h2 h3) mfX8_splitRows hl0 ⟨rfl, by decide +kernel, by decide +kernel, by decide +kernel⟩ ⟨hdep, by decide⟩ rfl rfl rfl hcat hlen hdec (fun v M' h => ?_)
  obtain ⟨rfl, h⟩ := h
  exact kk M' h
