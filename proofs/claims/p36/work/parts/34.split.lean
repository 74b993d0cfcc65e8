/-! splitting: what the law calls -/
set_option maxHeartbeats 4000000 in
set_option maxRecDepth 10000 in
theorem c_joinBySplitting (l : Launch) (pg mem : Nat) (hpg : 1 ≤ pg ∧ pg ≤ 100) (hm : 3 ≤ mem ∧ mem ≤ 12) {r q : Nat} (hr : r < 12) (hq : q < 12) {a b : List (Int × Int)} (hba : zIn a) (hbb : zIn b) (hs : (sqS pg mem 3 a b (0, 0, [])).2.2.length ≤ 120) (M : zM) (hp : M 95 2 = (pg : Int)) (hmem : M 95 3 = (mem : Int)) (hA : zRow M r a) (hB : zRow M q b) : Mt l 9 yX8_joinBySplitting cX8_joinBySplitting 3 none (fun ad => [.ref (ad (95)), .ref (ad (3 * r)), .ref (ad (3 * q))]) M (fun _ vv M' => vv = none ∧ (zOut M' (sqS pg mem 3 a b (0, 0, [])).2.2 ∧ M' 89 2 = (sqS pg mem 3 a b (0, 0, [])).1 ∧ M' 89 3 = (sqS pg mem 3 a b (0, 0, [])).2.1 + pgs ((sqS pg mem 3 a b (0, 0, [])).2.2.length : Int) pg ∧ ∀ o, o ≠ 36 → o ≠ 37 → o ≠ 38 → o ≠ 89 → o ≠ 90 → (o < 39 ∨ 57 ≤ o) → M' o = M o)) := by
  refine Mt.of (fun ad => [some (.ref (ad (95))), some (.ref (ad (3 * r))), some (.ref (ad (3 * q)))]) (by decide +kernel) (fun _ => rfl) (fun _ => rfl) (fun _ => Nat.le_of_ble_eq_true rfl) fun X hX C hR => ?_
  subst hX
  show G X M 0 [some (.ref ((zA X) (95))), some (.ref ((zA X) (3 * r))), some (.ref ((zA X) (3 * q)))] []
  refine g_aload_n C dX8_joinBySplitting_0 rfl ?_
  refine gf_Ms_outcome C tw_225 dX8_joinBySplitting_1 ?_
  refine gc_Out_clear C (by decide) tw_592 (Nat.le_of_ble_eq_true rfl) rfl dX8_joinBySplitting_4  (fun N1 ⟨b1, b2, b3, b4, b5⟩ => ?_)
  have e95 := b5 95 (by omega) (by omega) (by omega) (by omega)
  refine g_aload_n C dX8_joinBySplitting_7 rfl ?_
  refine gf_Ms_splitting C tw_226 dX8_joinBySplitting_8 ?_
  refine g_aload_n C dX8_joinBySplitting_11 rfl ?_
  show G X _ 12 _ _
  refine gf_Ms_page C tw_216 dX8_joinBySplitting_12 ?_
  rw [e95, hp]
  refine gp_Spl_page C tw_185 dX8_joinBySplitting_15 ?_
  refine g_aload_n C dX8_joinBySplitting_18 rfl ?_
  refine gf_Ms_splitting C tw_226 dX8_joinBySplitting_19 ?_
  refine g_aload_n C dX8_joinBySplitting_22 rfl ?_
  refine gf_Ms_memory C tw_217 dX8_joinBySplitting_23 ?_
  rw [zu_o _ _ _ _ (by omega), e95, hmem]
  show G X _ 26 _ _
  refine gp_Spl_memory C tw_187 dX8_joinBySplitting_26 ?_
  generalize hN2 : zu (zu N1 90 0 _) 90 1 _ = N2
  have c2 : ∀ o, o ≠ 90 → N2 o = N1 o := fun o h => by rw [← hN2, zu_o _ _ _ _ h, zu_o _ _ _ _ h]
  have c20 : N2 90 0 = (pg : Int) := by rw [← hN2, zu_k _ _ _ _ (by omega), zu_s]
  have c21 : N2 90 1 = (mem : Int) := by rw [← hN2, zu_s]
  refine g_aload_n C dX8_joinBySplitting_29 rfl ?_
  refine gf_Ms_splitting C tw_226 dX8_joinBySplitting_30 ?_
  refine g_aload_n C dX8_joinBySplitting_33 rfl ?_
  refine gf_Ms_outcome C tw_225 dX8_joinBySplitting_34 ?_
  refine g_aload_n C dX8_joinBySplitting_37 rfl ?_
  show G X _ 38 _ _
  refine g_aload_n C dX8_joinBySplitting_38 rfl ?_
  refine g_iconst C dX8_joinBySplitting_39 ?_
  refine gc_split0 C (by decide) tw_756 (Nat.le_of_ble_eq_true rfl) rfl dX8_joinBySplitting_40 pg mem hpg hm (r := r) (q := q) (by omega) (by omega) (by omega) (by omega) hba hbb (by omega) (0, 0, []) hs c20 c21 (hA.same (fun o _ _ => (c2 o (by omega)).trans (b5 o (by omega) (by omega) (by omega) (by omega)))) (hB.same (fun o _ _ => (c2 o (by omega)).trans (b5 o (by omega) (by omega) (by omega) (by omega)))) ⟨b1.1.same (fun o _ _ => c2 o (by omega)), by rw [c2 89 (by omega)]; exact b1.2⟩ (by rw [c2 89 (by omega)]; exact b2) (by rw [c2 89 (by omega)]; exact b3) (fun N3 ⟨w1, w2, w3, w4⟩ => ?_)
  refine g_aload_n C dX8_joinBySplitting_43 rfl ?_
  refine gf_Ms_outcome C tw_225 dX8_joinBySplitting_44 ?_
  refine g_dup C dX8_joinBySplitting_47 rfl ?_
  show G X _ 48 _ _
  refine gf_Out_writtenPages C tw_162 dX8_joinBySplitting_48 ?_
  rw [w3]
  refine g_aload_n C dX8_joinBySplitting_51 rfl ?_
  refine gf_Ms_outcome C tw_225 dX8_joinBySplitting_52 ?_
  refine gf_Out_made C tw_158 dX8_joinBySplitting_55 ?_
  rw [w1.2]
  refine g_aload_n C dX8_joinBySplitting_58 rfl ?_
  refine gf_Ms_page C tw_216 dX8_joinBySplitting_59 ?_
  rw [w4 95 (by omega) (by omega) (by omega) (by omega) (by omega) (by omega), c2 95 (by omega), e95, hp]
  show G X _ 62 _ _
  refine gc_pagesFor C (by decide) tw_722 (Nat.le_of_ble_eq_true rfl) rfl dX8_joinBySplitting_62 _ _ (by omega) (by omega) (?_)
  refine g_iadd C dX8_joinBySplitting_65 ?_
  refine gp_Out_writtenPages C tw_162 dX8_joinBySplitting_66 ?_
  refine g_vret C hR dX8_joinBySplitting_69 ?_
  refine ⟨rfl, w1.pages (fun o h => zu_o _ _ _ _ h) (zu_k _ _ _ _ (by omega)), by rw [zu_k _ _ _ _ (by omega)]; exact w2, zu_s _ _ _ _, fun o g1 g2 g3 g4 g5 g6 => ?_⟩
  rw [zu_o _ _ _ _ g4, w4 o g1 g2 g3 g4 (by omega) (by omega), c2 o g5, b5 o g1 g2 g3 g4]
theorem gc_joinBySplitting {X : z_X} {cc : ByteArray} {own : String} {ret : Option FieldType} {dC nC : Nat} {M : zM} {pc : Nat} {lv : List (Option Value)} {st : List Value} (C : Cx cc own ret dC nC X) (hdep : 10 ≤ dC) {idx : Nat} (hl0 : Cond.methodLink own idx yX8_joinBySplitting ∈ tT) (hcat : (st.map fun v => v.category).sum ≤ 8) (hlen : lv.length = nC) (hdec : decode cc pc = .ok (.invokevirtual idx, 3)) (pg mem : Nat) (hpg : 1 ≤ pg ∧ pg ≤ 100) (hm : 3 ≤ mem ∧ mem ≤ 12) {r q : Nat} (hr : r < 12) (hq : q < 12) {a b : List (Int × Int)} (hba : zIn a) (hbb : zIn b) (hs : (sqS pg mem 3 a b (0, 0, [])).2.2.length ≤ 120) (hp : M 95 2 = (pg : Int)) (hmem : M 95 3 = (mem : Int)) (hA : zRow M r a) (hB : zRow M q b) (kk : ∀ M' : zM, (zOut M' (sqS pg mem 3 a b (0, 0, [])).2.2 ∧ M' 89 2 = (sqS pg mem 3 a b (0, 0, [])).1 ∧ M' 89 3 = (sqS pg mem 3 a b (0, 0, [])).2.1 + pgs ((sqS pg mem 3 a b (0, 0, [])).2.2.length : Int) pg ∧ ∀ o, o ≠ 36 → o ≠ 37 → o ≠ 38 → o ≠ 89 → o ≠ 90 → (o < 39 ∨ 57 ≤ o) → M' o = M o) → G X M' (pc + 3) lv st) : G X M pc lv (.ref (zA X (3 * q)) :: .ref (zA X (3 * r)) :: .ref (zA X (95)) :: st) := by
  refine g_callV (k := 2) (o := 95) C (c_joinBySplitting (zL X) pg mem hpg hm hr hq hba hbb hs M hp hmem hA hB) mfX8_joinBySplitting hl0 ⟨rfl, by decide +kernel, by decide +kernel, by decide +kernel⟩ ⟨hdep, by decide⟩ (by omega) (fun _ _ _ _ => ze_ms) rfl rfl rfl rfl hcat hlen hdec (fun v M' h => ?_)
  obtain ⟨rfl, h⟩ := h
  exact kk M' h
set_option maxHeartbeats 4000000 in
set_option maxRecDepth 10000 in
theorem c_splitCost (l : Launch) {c : Nat} (f g : Nat) (hf : f < c) (hg : g < c) (hc : c ≤ 12) {a b : List (Int × Int)} (hba : zIn a) (hbb : zIn b) (pg mem : Nat) (hpg : 1 ≤ pg ∧ pg ≤ 100) (hm : 3 ≤ mem ∧ mem ≤ 12) (hs : (sqS pg mem 3 a b (0, 0, [])).2.2.length ≤ 120) (M : zM) (hM : M 95 1 = (c : Int)) (hp : M 95 2 = (pg : Int)) (hmem : M 95 3 = (mem : Int)) (hA : zRow M f a) (hB : zRow M g b) : Mt l 10 yX8_splitCost cX8_splitCost 5 (some .int) (fun ad => [.ref (ad (95)), .int (jI ((f : Int))), .int (jI ((g : Int)))]) M (fun _ vv M' => ∃ x : Int, vv = some (.int (jI x)) ∧ (x = (sqS pg mem 3 a b (0, 0, [])).1 + ((sqS pg mem 3 a b (0, 0, [])).2.1 + pgs ((sqS pg mem 3 a b (0, 0, [])).2.2.length : Int) pg) ∧ ∀ o, o ≠ 36 → o ≠ 37 → o ≠ 38 → o ≠ 89 → o ≠ 90 → (o < 39 ∨ 57 ≤ o) → M' o = M o)) := by
  refine Mt.of (fun ad => [some (.ref (ad (95))), some (.int (jI ((f : Int)))), some (.int (jI ((g : Int)))), none, none]) (by decide +kernel) (fun _ => rfl) (fun _ => rfl) (fun _ => Nat.le_of_ble_eq_true rfl) fun X hX C hR => ?_
  subst hX
  show G X M 0 [some (.ref ((zA X) (95))), some (.int (jI ((f : Int)))), some (.int (jI ((g : Int)))), none, none] []
  refine g_aload_n C dX8_splitCost_0 rfl ?_
  refine g_iload_n C dX8_splitCost_1 rfl ?_
  refine gc_rowOf C (by decide) tw_365 (Nat.le_of_ble_eq_true rfl) rfl dX8_splitCost_2 f hf hc hM (?_)
  refine g_astore_n C dX8_splitCost_5 (Nat.le_of_ble_eq_true rfl) ?_
  show G X _ 6 [_, _, _, _, _] _
  refine g_aload_n C dX8_splitCost_6 rfl ?_
  refine g_iload_n C dX8_splitCost_7 rfl ?_
  refine gc_rowOf C (by decide) tw_365 (Nat.le_of_ble_eq_true rfl) rfl dX8_splitCost_8 g hg hc hM (?_)
  refine g_astore C dX8_splitCost_11 (Nat.le_of_ble_eq_true rfl) ?_
  show G X _ 13 [_, _, _, _, _] _
  refine g_aload_n C dX8_splitCost_13 rfl ?_
  refine g_aload_n C dX8_splitCost_14 rfl ?_
  refine g_aload C dX8_splitCost_15 rfl ?_
  refine gc_joinBySplitting C (by decide) tw_752 (Nat.le_of_ble_eq_true rfl) rfl dX8_splitCost_17 pg mem hpg hm (r := f) (q := g) (by omega) (by omega) hba hbb hs hp hmem hA hB (fun N1 ⟨d1, d2, d3, d4⟩ => ?_)
  refine g_aload_n C dX8_splitCost_20 rfl ?_
  refine gf_Ms_outcome C tw_225 dX8_splitCost_21 ?_
  show G X _ 24 _ _
  refine gf_Out_readPages C tw_160 dX8_splitCost_24 ?_
  rw [d2]
  refine g_aload_n C dX8_splitCost_27 rfl ?_
  refine gf_Ms_outcome C tw_225 dX8_splitCost_28 ?_
  refine gf_Out_writtenPages C tw_162 dX8_splitCost_31 ?_
  rw [d3]
  refine g_iadd C dX8_splitCost_34 ?_
  refine g_iret C hR dX8_splitCost_35 ?_
  exact ⟨_, rfl, rfl, d4⟩
theorem gc_splitCost {X : z_X} {cc : ByteArray} {own : String} {ret : Option FieldType} {dC nC : Nat} {M : zM} {pc : Nat} {lv : List (Option Value)} {st : List Value} (C : Cx cc own ret dC nC X) (hdep : 11 ≤ dC) {idx : Nat} (hl0 : Cond.methodLink own idx yX8_splitCost ∈ tT) (hcat : (st.map fun v => v.category).sum ≤ 8) (hlen : lv.length = nC) (hdec : decode cc pc = .ok (.invokevirtual idx, 3)) {c : Nat} (f g : Nat) (hf : f < c) (hg : g < c) (hc : c ≤ 12) {a b : List (Int × Int)} (hba : zIn a) (hbb : zIn b) (pg mem : Nat) (hpg : 1 ≤ pg ∧ pg ≤ 100) (hm : 3 ≤ mem ∧ mem ≤ 12) (hs : (sqS pg mem 3 a b (0, 0, [])).2.2.length ≤ 120) (hM : M 95 1 = (c : Int)) (hp : M 95 2 = (pg : Int)) (hmem : M 95 3 = (mem : Int)) (hA : zRow M f a) (hB : zRow M g b) (kk : ∀ (x : Int) (M' : zM), (x = (sqS pg mem 3 a b (0, 0, [])).1 + ((sqS pg mem 3 a b (0, 0, [])).2.1 + pgs ((sqS pg mem 3 a b (0, 0, [])).2.2.length : Int) pg) ∧ ∀ o, o ≠ 36 → o ≠ 37 → o ≠ 38 → o ≠ 89 → o ≠ 90 → (o < 39 ∨ 57 ≤ o) → M' o = M o) → G X M' (pc + 3) lv (.int (jI x) :: st)) : G X M pc lv (.int (jI ((g : Int))) :: .int (jI ((f : Int))) :: .ref (zA X (95)) :: st) := by
  refine g_callV (k := 2) (o := 95) C (c_splitCost (zL X) f g hf hg hc hba hbb pg mem hpg hm hs M hM hp hmem hA hB) mfX8_splitCost hl0 ⟨rfl, by decide +kernel, by decide +kernel, by decide +kernel⟩ ⟨hdep, by decide⟩ (by omega) (fun _ _ _ _ => ze_ms) rfl rfl rfl rfl hcat hlen hdec (fun v M' h => ?_)
  obtain ⟨x, rfl, h⟩ := h
  exact kk x M' h
set_option maxHeartbeats 4000000 in
set_option maxRecDepth 10000 in
theorem c_split (l : Launch) {c : Nat} (f g : Nat) (hf : f < c) (hg : g < c) (hc : c < 12) {a b : List (Int × Int)} (hba : zIn a) (hbb : zIn b) (pg mem : Nat) (hpg : 1 ≤ pg ∧ pg ≤ 100) (hm : 3 ≤ mem ∧ mem ≤ 12) (hs : (sqS pg mem 3 a b (0, 0, [])).2.2.length ≤ 120) (M : zM) (hM : M 95 1 = (c : Int)) (hp : M 95 2 = (pg : Int)) (hmem : M 95 3 = (mem : Int)) (hA : zRow M f a) (hB : zRow M g b) : Mt l 10 yX8_split cX8_split 5 (some .int) (fun ad => [.ref (ad (95)), .int (jI ((f : Int))), .int (jI ((g : Int)))]) M (fun _ vv M' => ∃ x : Int, vv = some (.int (jI x)) ∧ (x = (c : Int) ∧ zRow M' c (sqS pg mem 3 a b (0, 0, [])).2.2 ∧ M' 95 1 = (c : Int) + 1 ∧ M' 95 2 = M 95 2 ∧ M' 95 3 = M 95 3 ∧ M' 95 4 = M 95 4 + (sqS pg mem 3 a b (0, 0, [])).1 ∧ M' 95 5 = M 95 5 + ((sqS pg mem 3 a b (0, 0, [])).2.1 + pgs ((sqS pg mem 3 a b (0, 0, [])).2.2.length : Int) pg) ∧ ∀ o, o ≠ 3 * c → o ≠ 3 * c + 1 → o ≠ 3 * c + 2 → o ≠ 36 → o ≠ 37 → o ≠ 38 → o ≠ 89 → o ≠ 90 → (o < 39 ∨ 57 ≤ o) → o ≠ 95 → M' o = M o)) := by
  refine Mt.of (fun ad => [some (.ref (ad (95))), some (.int (jI ((f : Int)))), some (.int (jI ((g : Int)))), none, none]) (by decide +kernel) (fun _ => rfl) (fun _ => rfl) (fun _ => Nat.le_of_ble_eq_true rfl) fun X hX C hR => ?_
  subst hX
  show G X M 0 [some (.ref ((zA X) (95))), some (.int (jI ((f : Int)))), some (.int (jI ((g : Int)))), none, none] []
  refine g_aload_n C dX8_split_0 rfl ?_
  refine g_iload_n C dX8_split_1 rfl ?_
  refine gc_rowOf C (by decide) tw_365 (Nat.le_of_ble_eq_true rfl) rfl dX8_split_2 f hf (by omega) hM (?_)
  refine g_astore_n C dX8_split_5 (Nat.le_of_ble_eq_true rfl) ?_
  show G X _ 6 [_, _, _, _, _] _
  refine g_aload_n C dX8_split_6 rfl ?_
  refine g_iload_n C dX8_split_7 rfl ?_
  refine gc_rowOf C (by decide) tw_365 (Nat.le_of_ble_eq_true rfl) rfl dX8_split_8 g hg (by omega) hM (?_)
  refine g_astore C dX8_split_11 (Nat.le_of_ble_eq_true rfl) ?_
  show G X _ 13 [_, _, _, _, _] _
  refine g_aload_n C dX8_split_13 rfl ?_
  refine gc_needRoom C (by decide) tw_337 (Nat.le_of_ble_eq_true rfl) rfl dX8_split_14 c hc hM (?_)
  refine g_aload_n C dX8_split_17 rfl ?_
  refine g_aload_n C dX8_split_18 rfl ?_
  refine g_aload C dX8_split_19 rfl ?_
  refine gc_joinBySplitting C (by decide) tw_752 (Nat.le_of_ble_eq_true rfl) rfl dX8_split_21 pg mem hpg hm (r := f) (q := g) (by omega) (by omega) hba hbb hs hp hmem hA hB (fun N1 ⟨d1, d2, d3, d4⟩ => ?_)
  have e95 := d4 95 (by omega) (by omega) (by omega) (by omega) (by omega) (by omega)
  show G X _ 24 _ _
  refine g_aload_n C dX8_split_24 rfl ?_
  refine gc_needFit C (by decide) tw_743 (Nat.le_of_ble_eq_true rfl) rfl dX8_split_25 _ hs d1.2 (?_)
  refine g_aload_n C dX8_split_28 rfl ?_
  refine gc_land C (by decide) tw_610 (Nat.le_of_ble_eq_true rfl) rfl dX8_split_29 c hc (by rw [e95]; exact hM) d1 (fun x N5 ⟨e0, e1, e2, e3, e4, e5, e6, e7, e8⟩ => ?_)
  refine g_iret C hR dX8_split_32 ?_
  refine ⟨_, rfl, e0, e1, e2, by rw [e3, e95], by rw [e4, e95], by rw [e5, e95, d2], by rw [e6, e95, d3], fun o g1 g2 g3 g4 g5 g6 g7 g8 g9 g10 => (e8 o g1 g2 g3 g10).trans (d4 o g4 g5 g6 g7 g8 g9)⟩
theorem gc_split {X : z_X} {cc : ByteArray} {own : String} {ret : Option FieldType} {dC nC : Nat} {M : zM} {pc : Nat} {lv : List (Option Value)} {st : List Value} (C : Cx cc own ret dC nC X) (hdep : 11 ≤ dC) {idx : Nat} (hl0 : Cond.methodLink own idx yX8_split ∈ tT) (hcat : (st.map fun v => v.category).sum ≤ 8) (hlen : lv.length = nC) (hdec : decode cc pc = .ok (.invokevirtual idx, 3)) {c : Nat} (f g : Nat) (hf : f < c) (hg : g < c) (hc : c < 12) {a b : List (Int × Int)} (hba : zIn a) (hbb : zIn b) (pg mem : Nat) (hpg : 1 ≤ pg ∧ pg ≤ 100) (hm : 3 ≤ mem ∧ mem ≤ 12) (hs : (sqS pg mem 3 a b (0, 0, [])).2.2.length ≤ 120) (hM : M 95 1 = (c : Int)) (hp : M 95 2 = (pg : Int)) (hmem : M 95 3 = (mem : Int)) (hA : zRow M f a) (hB : zRow M g b) (kk : ∀ (x : Int) (M' : zM), (x = (c : Int) ∧ zRow M' c (sqS pg mem 3 a b (0, 0, [])).2.2 ∧ M' 95 1 = (c : Int) + 1 ∧ M' 95 2 = M 95 2 ∧ M' 95 3 = M 95 3 ∧ M' 95 4 = M 95 4 + (sqS pg mem 3 a b (0, 0, [])).1 ∧ M' 95 5 = M 95 5 + ((sqS pg mem 3 a b (0, 0, [])).2.1 + pgs ((sqS pg mem 3 a b (0, 0, [])).2.2.length : Int) pg) ∧ ∀ o, o ≠ 3 * c → o ≠ 3 * c + 1 → o ≠ 3 * c + 2 → o ≠ 36 → o ≠ 37 → o ≠ 38 → o ≠ 89 → o ≠ 90 → (o < 39 ∨ 57 ≤ o) → o ≠ 95 → M' o = M o) → G X M' (pc + 3) lv (.int (jI x) :: st)) : G X M pc lv (.int (jI ((g : Int))) :: .int (jI ((f : Int))) :: .ref (zA X (95)) :: st) := by
  refine g_callV (k := 2) (o := 95) C (c_split (zL X) f g hf hg hc hba hbb pg mem hpg hm hs M hM hp hmem hA hB) mfX8_split hl0 ⟨rfl, by decide +kernel, by decide +kernel, by decide +kernel⟩ ⟨hdep, by decide⟩ (by omega) (fun _ _ _ _ => ze_ms) rfl rfl rfl rfl hcat hlen hdec (fun v M' h => ?_)
  obtain ⟨x, rfl, h⟩ := h
  exact kk x M' h
