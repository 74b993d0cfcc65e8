/-! joins by merging -/
set_option maxHeartbeats 4000000 in
set_option maxRecDepth 10000 in
theorem c_spill (l : Launch) (x : Int) (hx : 0 ≤ x ∧ x ≤ 200) (pg mem : Nat) (hpg : 1 ≤ pg ∧ pg ≤ 100) (hm : 3 ≤ mem ∧ mem ≤ 12) (M : zM) (hp : M 95 2 = (pg : Int)) (hmem : M 95 3 = (mem : Int)) : Mt l 3 yX8_spill cX8_spill 3 (some .int) (fun ad => [.ref (ad (95)), .int (jI (x))]) M (fun _ vv M' => ∃ x : Int, vv = some (.int (jI x)) ∧ ((∀ k, k ≠ 3 → k ≠ 4 → M' 89 k = M 89 k) ∧ ∀ o, o ≠ 89 → M' o = M o)) := by
  refine Mt.of (fun ad => [some (.ref (ad (95))), some (.int (jI (x))), none]) (by decide +kernel) (fun _ => rfl) (fun _ => rfl) (fun _ => Nat.le_of_ble_eq_true rfl) fun X hX C hR => ?_
  subst hX
  show G X M 0 [some (.ref ((zA X) (95))), some (.int (jI (x))), none] []
  have hpr : 0 ≤ ((mem : Int) - 2) * (pg : Int) ∧ ((mem : Int) - 2) * (pg : Int) ≤ 1000 :=
    ⟨Int.mul_nonneg (by omega) (by omega), Int.le_trans (Int.mul_le_mul (show (mem : Int) - 2 ≤ 10 by omega) (show (pg : Int) ≤ 100 by omega) (by omega) (by omega)) (by decide)⟩
  refine g_iload_n C dX8_spill_0 rfl ?_
  refine g_aload_n C dX8_spill_1 rfl ?_
  refine gf_Ms_memory C tw_217 dX8_spill_2 ?_
  rw [hmem]
  refine g_iconst C dX8_spill_5 ?_
  refine g_isub C dX8_spill_6 ?_
  refine g_aload_n C dX8_spill_7 rfl ?_
  show G X _ 8 _ _
  refine gf_Ms_page C tw_216 dX8_spill_8 ?_
  rw [hp]
  refine g_imul C dX8_spill_11 ?_
  refine g_icmp_gt (tgt := 17) C dX8_spill_12 rfl (by omega) (by omega) (fun h12 => ?_) (fun h12 => ?_)
  · refine g_iload_n C dX8_spill_17 rfl ?_
    refine g_aload_n C dX8_spill_18 rfl ?_
    refine gf_Ms_page C tw_216 dX8_spill_19 ?_
    rw [hp]
    refine gc_pagesFor C (by decide) tw_722 (Nat.le_of_ble_eq_true rfl) rfl dX8_spill_22 _ _ (by omega) (by omega) (?_)
    refine g_istore_n C dX8_spill_25 (Nat.le_of_ble_eq_true rfl) ?_
    show G X _ 26 [_, _, _] _
    refine g_aload_n C dX8_spill_26 rfl ?_
    refine gf_Ms_outcome C tw_225 dX8_spill_27 ?_
    refine g_dup C dX8_spill_30 rfl ?_
    refine gf_Out_spiltPages C tw_164 dX8_spill_31 ?_
    refine g_iload_n C dX8_spill_34 rfl ?_
    refine g_iadd C dX8_spill_35 ?_
    show G X _ 36 _ _
    refine gp_Out_spiltPages C tw_164 dX8_spill_36 ?_
    refine g_aload_n C dX8_spill_39 rfl ?_
    refine gf_Ms_outcome C tw_225 dX8_spill_40 ?_
    refine g_dup C dX8_spill_43 rfl ?_
    refine gf_Out_writtenPages C tw_162 dX8_spill_44 ?_
    refine g_iload_n C dX8_spill_47 rfl ?_
    show G X _ 48 _ _
    refine g_iadd C dX8_spill_48 ?_
    refine gp_Out_writtenPages C tw_162 dX8_spill_49 ?_
    refine g_iload_n C dX8_spill_52 rfl ?_
    refine g_iret C hR dX8_spill_53 ?_
    exact ⟨_, rfl, fun k a b => by rw [zu_k _ _ _ _ a, zu_k _ _ _ _ b], fun o a => by rw [zu_o _ _ _ _ a, zu_o _ _ _ _ a]⟩
  · refine g_iconst C dX8_spill_15 ?_
    refine g_iret C hR dX8_spill_16 ?_
    exact ⟨_, rfl, fun _ _ _ => rfl, fun _ _ => rfl⟩
theorem gc_spill {X : z_X} {cc : ByteArray} {own : String} {ret : Option FieldType} {dC nC : Nat} {M : zM} {pc : Nat} {lv : List (Option Value)} {st : List Value} (C : Cx cc own ret dC nC X) (hdep : 4 ≤ dC) {idx : Nat} (hl0 : Cond.methodLink own idx yX8_spill ∈ tT) (hcat : (st.map fun v => v.category).sum ≤ 8) (hlen : lv.length = nC) (hdec : decode cc pc = .ok (.invokevirtual idx, 3)) (x : Int) (hx : 0 ≤ x ∧ x ≤ 200) (pg mem : Nat) (hpg : 1 ≤ pg ∧ pg ≤ 100) (hm : 3 ≤ mem ∧ mem ≤ 12) (hp : M 95 2 = (pg : Int)) (hmem : M 95 3 = (mem : Int)) (kk : ∀ (x : Int) (M' : zM), ((∀ k, k ≠ 3 → k ≠ 4 → M' 89 k = M 89 k) ∧ ∀ o, o ≠ 89 → M' o = M o) → G X M' (pc + 3) lv (.int (jI x) :: st)) : G X M pc lv (.int (jI (x)) :: .ref (zA X (95)) :: st) := by
  refine g_callV (k := 1) (o := 95) C (c_spill (zL X) x hx pg mem hpg hm M hp hmem) mfX8_spill hl0 ⟨rfl, by decide +kernel, by decide +kernel, by decide +kernel⟩ ⟨hdep, by decide⟩ (by omega) (fun _ _ _ _ => ze_ms) rfl rfl rfl rfl hcat hlen hdec (fun v M' h => ?_)
  obtain ⟨x, rfl, h⟩ := h
  exact kk x M' h
set_option maxHeartbeats 4000000 in
set_option maxRecDepth 10000 in
theorem c_givePairs (l : Launch) {r q : Nat} (hr : r < 20) (hq : q < 20) (hr12 : r ≠ 12) (hq12 : q ≠ 12) {A B : List (Int × Int)} (hbA : zIn A) (hbB : zIn B) {L : List (Int × Int)} (i b n : Nat) (hi : i < A.length) (hl : b + n ≤ B.length) (hs : L.length + n ≤ 120) (M : zM) (hA : zRow M r A) (hB : zRow M q B) (hL : zOut M L) : Mt l 4 yX8_givePairs cX8_givePairs 7 none (fun ad => [.ref (ad (95)), .ref (ad (3 * r)), .int (jI ((i : Int))), .ref (ad (3 * q)), .int (jI ((b : Int))), .int (jI (((b + n : Nat) : Int)))]) M (fun _ vv M' => vv = none ∧ (zOut M' (L ++ jpL A B i b n) ∧ zFo M M')) := by
  refine Mt.of (fun ad => [some (.ref (ad (95))), some (.ref (ad (3 * r))), some (.int (jI ((i : Int)))), some (.ref (ad (3 * q))), some (.int (jI ((b : Int)))), some (.int (jI (((b + n : Nat) : Int)))), none]) (by decide +kernel) (fun _ => rfl) (fun _ => rfl) (fun _ => Nat.le_of_ble_eq_true rfl) fun X hX C hR => ?_
  subst hX
  show G X M 0 [some (.ref ((zA X) (95))), some (.ref ((zA X) (3 * r))), some (.int (jI ((i : Int)))), some (.ref ((zA X) (3 * q))), some (.int (jI ((b : Int)))), some (.int (jI (((b + n : Nat) : Int)))), none] []
  have hB120 := hB.2.1
  have lp : ∀ (fk : Nat) (j : Nat) (N : zM), 200 - j < fk → j ≤ n → zOut N (L ++ jpL A B i b j) → zFo M N → G X N 4 [some (.ref (zA X 95)), some (.ref (zA X (3 * r))), some (.int (jI (i : Int))), some (.ref (zA X (3 * q))), some (.int (jI (b : Int))), some (.int (jI ((b + n : Nat) : Int))), some (.int (jI ((b + j : Nat) : Int)))] [] := by
    intro fk
    induction fk with
    | zero => intro j N hk; exact absurd hk (Nat.not_lt_zero _)
    | succ fk ih =>
      intro j N hk j1 hO hF
      have hA2 : zRow N r A := hA.apo hF.1 hr12 hr
      have hB2 : zRow N q B := hB.apo hF.1 hq12 hq
      have hB120 := hB.2.1
      refine g_iload C dX8_givePairs_4 rfl ?_
      refine g_iload C dX8_givePairs_6 rfl ?_
      refine g_icmp_ge (tgt := 29) C dX8_givePairs_8 rfl (by omega) (by omega) (fun h8 => ?_) (fun h8 => ?_)
      · refine g_vret C hR dX8_givePairs_29 ?_
        rw [show j = n by omega] at hO
        exact ⟨rfl, hO, hF⟩
      · refine g_aload_n C dX8_givePairs_11 rfl ?_
        refine gf_Ms_outcome C tw_225 dX8_givePairs_12 ?_
        refine g_aload_n C dX8_givePairs_15 rfl ?_
        refine g_iload_n C dX8_givePairs_16 rfl ?_
        refine g_aload_n C dX8_givePairs_17 rfl ?_
        refine g_iload C dX8_givePairs_18 rfl ?_
        show G X _ 20 _ _
        refine gc_Out_givePair C (by decide) tw_736 (Nat.le_of_ble_eq_true rfl) rfl dX8_givePairs_20 hr hq i (b + j) hi (by omega) (by rw [List.length_append, jpL_len]; omega) hbA hbB hA2 hB2 hO (fun N2 ⟨n1, n2⟩ => ?_)
        refine g_iinc C dX8_givePairs_23 rfl ?_
        show G X _ 26 [_, _, _, _, _, _, _] _
        refine g_goto (tgt := 4) C dX8_givePairs_26 rfl ?_
        show G X _ 4 _ _
        rw [List.append_assoc, ← jpL_succ] at n1
        rw [show ((b + j : Nat) : Int) + 1 = ((b + (j + 1) : Nat) : Int) by omega]
        exact ih (j + 1) N2 (by omega) (by omega) n1 (hF.trans n2)
  refine g_iload C dX8_givePairs_0 rfl ?_
  refine g_istore C dX8_givePairs_2 (Nat.le_of_ble_eq_true rfl) ?_
  show G X _ 4 [_, _, _, _, _, _, _] _
  exact lp 300 0 M (by omega) (Nat.zero_le _) (by simpa [jpL] using hL) zFo.refl
theorem gc_givePairs {X : z_X} {cc : ByteArray} {own : String} {ret : Option FieldType} {dC nC : Nat} {M : zM} {pc : Nat} {lv : List (Option Value)} {st : List Value} (C : Cx cc own ret dC nC X) (hdep : 5 ≤ dC) {idx : Nat} (hl0 : Cond.methodLink own idx yX8_givePairs ∈ tT) (hcat : (st.map fun v => v.category).sum ≤ 8) (hlen : lv.length = nC) (hdec : decode cc pc = .ok (.invokevirtual idx, 3)) {r q : Nat} (hr : r < 20) (hq : q < 20) (hr12 : r ≠ 12) (hq12 : q ≠ 12) {A B : List (Int × Int)} (hbA : zIn A) (hbB : zIn B) {L : List (Int × Int)} (i b n : Nat) (hi : i < A.length) (hl : b + n ≤ B.length) (hs : L.length + n ≤ 120) (hA : zRow M r A) (hB : zRow M q B) (hL : zOut M L) (kk : ∀ M' : zM, (zOut M' (L ++ jpL A B i b n) ∧ zFo M M') → G X M' (pc + 3) lv st) : G X M pc lv (.int (jI (((b + n : Nat) : Int))) :: .int (jI ((b : Int))) :: .ref (zA X (3 * q)) :: .int (jI ((i : Int))) :: .ref (zA X (3 * r)) :: .ref (zA X (95)) :: st) := by
  refine g_callV (k := 5) (o := 95) C (c_givePairs (zL X) hr hq hr12 hq12 hbA hbB i b n hi hl hs M hA hB hL) mfX8_givePairs hl0 ⟨rfl, by decide +kernel, by decide +kernel, by decide +kernel⟩ ⟨hdep, by decide⟩ (by omega) (fun _ _ _ _ => ze_ms) rfl rfl rfl rfl hcat hlen hdec (fun v M' h => ?_)
  obtain ⟨rfl, h⟩ := h
  exact kk M' h
set_option maxHeartbeats 4000000 in
set_option maxRecDepth 10000 in
theorem c_merge0 (l : Launch) {r q : Nat} (hr : r < 20) (hq : q < 20) (hr12 : r ≠ 12) (hq12 : q ≠ 12) {A B : List (Int × Int)} (hbA : zIn A) (hbB : zIn B) (huA : upB A = true) (huB : upB B = true) (pg mem : Nat) (hpg : 1 ≤ pg ∧ pg ≤ 100) (hm : 3 ≤ mem ∧ mem ≤ 12) (hs : (jn0 A B A.length).length ≤ 120) (M : zM) (hp : M 95 2 = (pg : Int)) (hmem : M 95 3 = (mem : Int)) (hA : zRow M r A) (hB : zRow M q B) (hL : zOut M []) : Mt l 5 yX8_joinByMerging cX8_joinByMerging 10 none (fun ad => [.ref (ad (95)), .ref (ad (3 * r)), .ref (ad (3 * q)), .int (jI (0))]) M (fun _ vv M' => vv = none ∧ (zOut M' (jn0 A B A.length) ∧ ∀ o, o ≠ 36 → o ≠ 37 → o ≠ 38 → o ≠ 89 → M' o = M o)) := by
  refine Mt.of (fun ad => [some (.ref (ad (95))), some (.ref (ad (3 * r))), some (.ref (ad (3 * q))), some (.int (jI (0))), none, none, none, none, none, none]) (by decide +kernel) (fun _ => rfl) (fun _ => rfl) (fun _ => Nat.le_of_ble_eq_true rfl) fun X hX C hR => ?_
  subst hX
  show G X M 0 [some (.ref ((zA X) (95))), some (.ref ((zA X) (3 * r))), some (.ref ((zA X) (3 * q))), some (.int (jI (0))), none, none, none, none, none, none] []
  have hB120 := hB.2.1
  have hA120 := hA.2.1
  have lp : ∀ (fk : Nat) (i l e : Nat) (s6 : Int) (N : zM), 200 - i < fk → i ≤ A.length → ((i = 0 ∧ l = 0 ∧ e = 0) ∨ (0 < i ∧ l = lc B (kA A (i - 1)) ∧ e = lc B (kA A (i - 1)) + kc B (kA A (i - 1)))) → zOut N (jn0 A B i) → (∀ o, o ≠ 36 → o ≠ 37 → o ≠ 38 → o ≠ 89 → N o = M o) → G X N 42 [some (.ref (zA X 95)), some (.ref (zA X (3 * r))), some (.ref (zA X (3 * q))), some (.int (jI (0))), some (.int (jI ((l : Int)))), some (.int (jI ((e : Int)))), some (.int (jI s6)), some (.int (jI ((i : Int)))), none, none] [] := by
    intro fk
    induction fk with
    | zero => intro i l e s6 N hk; exact absurd hk (Nat.not_lt_zero _)
    | succ fk ih =>
      intro i l e s6 N hk i1 hle hO hF
      have hA2 : zRow N r A := hA.apo hF hr12 hr
      have hB2 : zRow N q B := hB.apo hF hq12 hq
      have hB120 := hB.2.1
      have hA120 := hA.2.1
      have hp2 : N 95 2 = (pg : Int) := by rw [hF 95 (by omega) (by omega) (by omega) (by omega)]; exact hp
      have hmem2 : N 95 3 = (mem : Int) := by rw [hF 95 (by omega) (by omega) (by omega) (by omega)]; exact hmem
      have bi := hbA.at i
      have bi1 := hbA.at (i - 1)
      have hlc := lc_le B (kA A i)
      refine g_iload C dX8_joinByMerging_42 rfl ?_
      refine g_aload_n C dX8_joinByMerging_44 rfl ?_
      refine gc_Row_count C (by decide) tw_390 (Nat.le_of_ble_eq_true rfl) rfl dX8_joinByMerging_45 hr hA2 (?_)
      refine g_icmp_ge (tgt := 236) C dX8_joinByMerging_48 rfl (by omega) (by omega) (fun h48 => ?_) (fun h48 => ?_)
      · refine g_aload_n C dX8_joinByMerging_236 rfl ?_
        refine gf_Ms_outcome C tw_225 dX8_joinByMerging_237 ?_
        refine g_dup C dX8_joinByMerging_240 rfl ?_
        refine gf_Out_writtenPages C tw_162 dX8_joinByMerging_241 ?_
        refine g_aload_n C dX8_joinByMerging_244 rfl ?_
        refine gf_Ms_outcome C tw_225 dX8_joinByMerging_245 ?_
        show G X _ 248 _ _
        refine gf_Out_made C tw_158 dX8_joinByMerging_248 ?_
        rw [hO.2]
        refine g_aload_n C dX8_joinByMerging_251 rfl ?_
        refine gf_Ms_page C tw_216 dX8_joinByMerging_252 ?_
        rw [hp2]
        refine gc_pagesFor C (by decide) tw_722 (Nat.le_of_ble_eq_true rfl) rfl dX8_joinByMerging_255 _ _ (by have := hO.1.2.1; omega) (by omega) (?_)
        refine g_iadd C dX8_joinByMerging_258 ?_
        refine gp_Out_writtenPages C tw_162 dX8_joinByMerging_259 ?_
        show G X _ 262 _ _
        refine g_vret C hR dX8_joinByMerging_262 ?_
        rw [show i = A.length by omega] at hO
        refine ⟨rfl, hO.pages (fun o a => zu_o _ _ _ _ a) (zu_k _ _ _ _ (by omega)), fun o a b d e => ?_⟩
        rw [zu_o _ _ _ _ e]; exact hF o a b d e
      · have hi : i < A.length := by omega
        have d155 : ∀ (s2 : Int) (v9 : Option Value) (N2 : zM), zOut N2 (jn0 A B i) → (∀ o, o ≠ 36 → o ≠ 37 → o ≠ 38 → o ≠ 89 → N2 o = M o) → G X N2 155 [some (.ref (zA X 95)), some (.ref (zA X (3 * r))), some (.ref (zA X (3 * q))), some (.int (jI (0))), some (.int (jI ((lc B (kA A i) : Int)))), some (.int (jI (((lc B (kA A i) + kc B (kA A i) : Nat) : Int)))), some (.int (jI s2)), some (.int (jI ((i : Int)))), some (.int (jI (kA A i))), v9] [] := by
          intro s2 v9 N2 hO2 hF2
          refine g_aload_n C dX8_joinByMerging_155 rfl ?_
          refine gf_Ms_outcome C tw_225 dX8_joinByMerging_156 ?_
          refine g_dup C dX8_joinByMerging_159 rfl ?_
          refine gf_Out_readPages C tw_160 dX8_joinByMerging_160 ?_
          refine g_iload C dX8_joinByMerging_163 rfl ?_
          refine g_iadd C dX8_joinByMerging_165 ?_
          show G X _ 166 _ _
          refine gp_Out_readPages C tw_160 dX8_joinByMerging_166 ?_
          refine g_iload_n C dX8_joinByMerging_169 rfl ?_
          refine g_iconst C dX8_joinByMerging_170 ?_
          refine g_icmp_gt (tgt := 186) C dX8_joinByMerging_171 rfl (by omega) (by omega) (fun h171 => ?_) (fun h171 => ?_)
          · omega
          · refine g_aload_n C dX8_joinByMerging_174 rfl ?_
            refine g_aload_n C dX8_joinByMerging_175 rfl ?_
            refine g_iload C dX8_joinByMerging_176 rfl ?_
            refine g_aload_n C dX8_joinByMerging_178 rfl ?_
            refine g_iload C dX8_joinByMerging_179 rfl ?_
            refine g_iload C dX8_joinByMerging_181 rfl ?_
            show G X _ 183 _ _
            have hA3 : zRow (zu N2 89 2 (N2 89 2 + s2)) r A := hA.apo (fun o a b d e => by rw [zu_o _ _ _ _ e]; exact hF2 o a b d e) hr12 hr
            have hB3 : zRow (zu N2 89 2 (N2 89 2 + s2)) q B := hB.apo (fun o a b d e => by rw [zu_o _ _ _ _ e]; exact hF2 o a b d e) hq12 hq
            have hO3 : zOut (zu N2 89 2 (N2 89 2 + s2)) (jn0 A B i) := hO2.pages (fun o a => zu_o _ _ _ _ a) (zu_k _ _ _ _ (by omega))
            refine gc_givePairs C (by decide) tw_732 (Nat.le_of_ble_eq_true rfl) rfl dX8_joinByMerging_183 hr hq hr12 hq12 hbA hbB i (lc B (kA A i)) (kc B (kA A i)) hi (by rw [← lc_succ]; exact lc_le _ _) (by have := jn0_mono (A := A) (B := B) (show i + 1 ≤ A.length by omega); rw [jn0, List.length_append, jpL_len] at this; omega) hA3 hB3 hO3 (fun N3 ⟨n1, n2⟩ => ?_)
            refine g_iload_n C dX8_joinByMerging_186 rfl ?_
            refine g_if_eq (tgt := 230) C dX8_joinByMerging_187 rfl (by omega) (fun h187 => ?_) (fun h187 => ?_)
            · refine g_iinc C dX8_joinByMerging_230 rfl ?_
              show G X _ 233 [_, _, _, _, _, _, _, _, _, _] _
              refine g_goto (tgt := 42) C dX8_joinByMerging_233 rfl ?_
              show G X _ 42 _ _
              refine g_mask [true, true, true, true, true, true, true, true, false, false] rfl ?_
              show G X _ 42 [_, _, _, _, _, _, _, _, _, _] _
              exact ih (i + 1) (lc B (kA A i)) (lc B (kA A i) + kc B (kA A i)) s2 _ (by omega) (by omega) (Or.inr ⟨by omega, by simp, by simp⟩) n1 (fun o a b d e => (n2.1 o a b d e).trans (by rw [zu_o _ _ _ _ e]; exact hF2 o a b d e))
            · omega
        have d153 : ∀ (s0 v : Int) (v9 : Option Value) (N2 : zM), zOut N2 (jn0 A B i) → (∀ o, o ≠ 36 → o ≠ 37 → o ≠ 38 → o ≠ 89 → N2 o = M o) → G X N2 153 [some (.ref (zA X 95)), some (.ref (zA X (3 * r))), some (.ref (zA X (3 * q))), some (.int (jI (0))), some (.int (jI ((lc B (kA A i) : Int)))), some (.int (jI (((lc B (kA A i) + kc B (kA A i) : Nat) : Int)))), some (.int (jI s0)), some (.int (jI ((i : Int)))), some (.int (jI (kA A i))), v9] [.int (jI v)] := by
          intro s0 v v9 N2 hO2 hF2
          refine g_istore C dX8_joinByMerging_153 (Nat.le_of_ble_eq_true rfl) ?_
          show G X _ 155 [_, _, _, _, _, _, _, _, _, _] _
          exact d155 v v9 N2 hO2 hF2
        have d128 : ∀ v : Int, 0 ≤ v ∧ v ≤ 1 → G X N 128 [some (.ref (zA X 95)), some (.ref (zA X (3 * r))), some (.ref (zA X (3 * q))), some (.int (jI (0))), some (.int (jI ((lc B (kA A i) : Int)))), some (.int (jI (((lc B (kA A i) + kc B (kA A i) : Nat) : Int)))), some (.int (jI s6)), some (.int (jI ((i : Int)))), some (.int (jI (kA A i))), none] [.int (jI v)] := by
          intro v hv
          refine g_istore C dX8_joinByMerging_128 (Nat.le_of_ble_eq_true rfl) ?_
          show G X _ 130 [_, _, _, _, _, _, _, _, _, _] _
          refine g_iload_n C dX8_joinByMerging_130 rfl ?_
          refine g_iconst C dX8_joinByMerging_131 ?_
          refine g_icmp_gt (tgt := 152) C dX8_joinByMerging_132 rfl (by omega) (by omega) (fun h132 => ?_) (fun h132 => ?_)
          · omega
          · refine g_iload C dX8_joinByMerging_135 rfl ?_
            refine g_if_eq (tgt := 152) C dX8_joinByMerging_137 rfl (by omega) (fun h137 => ?_) (fun h137 => ?_)
            · refine g_iconst C dX8_joinByMerging_152 ?_
              exact d153 s6 0 _ N hO hF
            · refine g_aload_n C dX8_joinByMerging_140 rfl ?_
              refine g_iload C dX8_joinByMerging_141 rfl ?_
              refine g_iload C dX8_joinByMerging_143 rfl ?_
              refine g_isub C dX8_joinByMerging_145 ?_
              have hl9 := lc_le B (kA A i + 1)
              rw [lc_succ] at hl9
              have hB120 := hB.2.1
              refine gc_spill C (by decide) tw_728 (Nat.le_of_ble_eq_true rfl) rfl dX8_joinByMerging_146 _ (by omega) pg mem hpg hm hp2 hmem2 (fun x N2 ⟨n1, n2⟩ => ?_)
              refine g_goto (tgt := 153) C dX8_joinByMerging_149 rfl ?_
              show G X _ 153 _ _
              exact d153 s6 x _ N2 (hO.pages n2 (n1 1 (by omega) (by omega))) (fun o a b d e => (n2 o e).trans (hF o a b d e))
        have d77 : ∀ l9 : Nat, e ≤ lc B (kA A i) → G X N 77 [some (.ref (zA X 95)), some (.ref (zA X (3 * r))), some (.ref (zA X (3 * q))), some (.int (jI (0))), some (.int (jI ((l9 : Int)))), some (.int (jI ((e : Int)))), some (.int (jI s6)), some (.int (jI ((i : Int)))), some (.int (jI (kA A i))), none] [] := by
          intro l9 he
          refine g_aload_n C dX8_joinByMerging_77 rfl ?_
          refine g_iload C dX8_joinByMerging_78 rfl ?_
          refine g_iload C dX8_joinByMerging_80 rfl ?_
          refine gc_Row_placeNotBelow C (by decide) tw_723 (Nat.le_of_ble_eq_true rfl) rfl dX8_joinByMerging_82 hq (kA A i) e (by omega) (by omega) hB2 hbB (?_)
          rw [pnb_lc huB he]
          refine g_istore C dX8_joinByMerging_85 (Nat.le_of_ble_eq_true rfl) ?_
          show G X _ 87 [_, _, _, _, _, _, _, _, _, _] _
          refine g_aload_n C dX8_joinByMerging_87 rfl ?_
          refine g_iload C dX8_joinByMerging_88 rfl ?_
          refine g_iconst C dX8_joinByMerging_90 ?_
          refine g_iadd C dX8_joinByMerging_91 ?_
          refine g_iload C dX8_joinByMerging_92 rfl ?_
          refine gc_Row_placeNotBelow C (by decide) tw_723 (Nat.le_of_ble_eq_true rfl) rfl dX8_joinByMerging_94 hq (kA A i + 1) (lc B (kA A i)) (by omega) (by omega) hB2 hbB (?_)
          rw [pnb_lc huB (lc_mono (by omega)), lc_succ]
          show G X _ 97 _ _
          refine g_istore C dX8_joinByMerging_97 (Nat.le_of_ble_eq_true rfl) ?_
          show G X _ 99 [_, _, _, _, _, _, _, _, _, _] _
          refine g_aload_n C dX8_joinByMerging_99 rfl ?_
          refine g_iload C dX8_joinByMerging_100 rfl ?_
          refine g_iconst C dX8_joinByMerging_102 ?_
          refine g_iadd C dX8_joinByMerging_103 ?_
          refine gc_Row_has C (by decide) tw_422 (Nat.le_of_ble_eq_true rfl) rfl dX8_joinByMerging_104 hr _ (by omega) hA2 (?_)
          refine g_if_eq (tgt := 127) C dX8_joinByMerging_107 rfl (by by_cases z : 0 ≤ (i : Int) + 1 ∧ (i : Int) + 1 < (A.length : Int) <;> simp [z]) (fun h107 => ?_) (fun h107 => ?_)
          · refine g_iconst C dX8_joinByMerging_127 ?_
            exact d128 0 (by omega)
          · refine g_aload_n C dX8_joinByMerging_110 rfl ?_
            refine g_iload C dX8_joinByMerging_111 rfl ?_
            refine g_iconst C dX8_joinByMerging_113 ?_
            refine g_iadd C dX8_joinByMerging_114 ?_
            have z : 0 ≤ (i : Int) + 1 ∧ (i : Int) + 1 < (A.length : Int) := by
              by_cases z : 0 ≤ (i : Int) + 1 ∧ (i : Int) + 1 < (A.length : Int)
              · exact z
              · rw [if_neg z] at h107; omega
            have bz := hbA.at (i + 1)
            rw [show (i : Int) + 1 = ((i + 1 : Nat) : Int) by omega]
            refine gc_Row_keyAt C (by decide) tw_431 (Nat.le_of_ble_eq_true rfl) rfl dX8_joinByMerging_115 hr (i + 1) (by omega) hA2 (?_)
            refine g_iload C dX8_joinByMerging_118 rfl ?_
            show G X _ 120 _ _
            refine g_icmp_ne (tgt := 127) C dX8_joinByMerging_120 rfl (by omega) (by omega) (fun h120 => ?_) (fun h120 => ?_)
            · refine g_iconst C dX8_joinByMerging_127 ?_
              exact d128 0 (by omega)
            · refine g_iconst C dX8_joinByMerging_123 ?_
              refine g_goto (tgt := 128) C dX8_joinByMerging_124 rfl ?_
              show G X _ 128 _ _
              exact d128 1 (by omega)
        refine g_aload_n C dX8_joinByMerging_51 rfl ?_
        refine g_iload C dX8_joinByMerging_52 rfl ?_
        refine gc_Row_keyAt C (by decide) tw_431 (Nat.le_of_ble_eq_true rfl) rfl dX8_joinByMerging_54 hr i (by omega) hA2 (?_)
        refine g_istore C dX8_joinByMerging_57 (Nat.le_of_ble_eq_true rfl) ?_
        show G X _ 59 [_, _, _, _, _, _, _, _, _, _] _
        refine g_iload C dX8_joinByMerging_59 rfl ?_
        refine g_if_eq (tgt := 77) C dX8_joinByMerging_61 rfl (by omega) (fun h61 => ?_) (fun h61 => ?_)
        · exact d77 l (by omega)
        · refine g_aload_n C dX8_joinByMerging_64 rfl ?_
          refine g_iload C dX8_joinByMerging_65 rfl ?_
          refine g_iconst C dX8_joinByMerging_67 ?_
          refine g_isub C dX8_joinByMerging_68 ?_
          rw [show (i : Int) - 1 = ((i - 1 : Nat) : Int) by omega]
          refine gc_Row_keyAt C (by decide) tw_431 (Nat.le_of_ble_eq_true rfl) rfl dX8_joinByMerging_69 hr (i - 1) (by omega) hA2 (?_)
          refine g_iload C dX8_joinByMerging_72 rfl ?_
          show G X _ 74 _ _
          refine g_icmp_eq (tgt := 155) C dX8_joinByMerging_74 rfl (by omega) (by omega) (fun h74 => ?_) (fun h74 => ?_)
          · obtain ⟨q0, rfl, rfl⟩ : 0 < i ∧ l = lc B (kA A (i - 1)) ∧ e = lc B (kA A (i - 1)) + kc B (kA A (i - 1)) := by omega
            rw [h74]
            exact d155 s6 none N hO hF
          · obtain ⟨q0, rfl, rfl⟩ : 0 < i ∧ l = lc B (kA A (i - 1)) ∧ e = lc B (kA A (i - 1)) + kc B (kA A (i - 1)) := by omega
            have hup := up_le huA (i - 1) i (by omega) hi
            refine d77 _ ?_
            rw [← lc_succ]
            exact lc_mono (by omega)
  refine g_aload_n C dX8_joinByMerging_0 rfl ?_
  refine gf_Ms_outcome C tw_225 dX8_joinByMerging_1 ?_
  refine g_aload_n C dX8_joinByMerging_4 rfl ?_
  refine gc_Row_count C (by decide) tw_390 (Nat.le_of_ble_eq_true rfl) rfl dX8_joinByMerging_5 hr hA (?_)
  refine g_aload_n C dX8_joinByMerging_8 rfl ?_
  refine gf_Ms_page C tw_216 dX8_joinByMerging_9 ?_
  rw [hp]
  show G X _ 12 _ _
  refine gc_pagesFor C (by decide) tw_722 (Nat.le_of_ble_eq_true rfl) rfl dX8_joinByMerging_12 _ _ (by omega) (by omega) (?_)
  refine g_aload_n C dX8_joinByMerging_15 rfl ?_
  refine gc_Row_count C (by decide) tw_390 (Nat.le_of_ble_eq_true rfl) rfl dX8_joinByMerging_16 hq hB (?_)
  refine g_aload_n C dX8_joinByMerging_19 rfl ?_
  refine gf_Ms_page C tw_216 dX8_joinByMerging_20 ?_
  rw [hp]
  refine gc_pagesFor C (by decide) tw_722 (Nat.le_of_ble_eq_true rfl) rfl dX8_joinByMerging_23 _ _ (by omega) (by omega) (?_)
  show G X _ 26 _ _
  refine g_iadd C dX8_joinByMerging_26 ?_
  refine gp_Out_readPages C tw_160 dX8_joinByMerging_27 ?_
  refine g_iconst C dX8_joinByMerging_30 ?_
  refine g_istore C dX8_joinByMerging_31 (Nat.le_of_ble_eq_true rfl) ?_
  show G X _ 33 [_, _, _, _, _, _, _, _, _, _] _
  refine g_iconst C dX8_joinByMerging_33 ?_
  refine g_istore C dX8_joinByMerging_34 (Nat.le_of_ble_eq_true rfl) ?_
  show G X _ 36 [_, _, _, _, _, _, _, _, _, _] _
  refine g_iconst C dX8_joinByMerging_36 ?_
  refine g_istore C dX8_joinByMerging_37 (Nat.le_of_ble_eq_true rfl) ?_
  show G X _ 39 [_, _, _, _, _, _, _, _, _, _] _
  refine g_iconst C dX8_joinByMerging_39 ?_
  refine g_istore C dX8_joinByMerging_40 (Nat.le_of_ble_eq_true rfl) ?_
  show G X _ 42 [_, _, _, _, _, _, _, _, _, _] _
  exact lp 300 0 0 0 0 _ (by omega) (Nat.zero_le _) (Or.inl ⟨rfl, rfl, rfl⟩) (hL.pages (fun o a => zu_o _ _ _ _ a) (zu_k _ _ _ _ (by omega))) (fun o _ _ _ e => zu_o _ _ _ _ e)
theorem gc_merge0 {X : z_X} {cc : ByteArray} {own : String} {ret : Option FieldType} {dC nC : Nat} {M : zM} {pc : Nat} {lv : List (Option Value)} {st : List Value} (C : Cx cc own ret dC nC X) (hdep : 6 ≤ dC) {idx : Nat} (hl0 : Cond.methodLink own idx yX8_joinByMerging ∈ tT) (hcat : (st.map fun v => v.category).sum ≤ 8) (hlen : lv.length = nC) (hdec : decode cc pc = .ok (.invokevirtual idx, 3)) {r q : Nat} (hr : r < 20) (hq : q < 20) (hr12 : r ≠ 12) (hq12 : q ≠ 12) {A B : List (Int × Int)} (hbA : zIn A) (hbB : zIn B) (huA : upB A = true) (huB : upB B = true) (pg mem : Nat) (hpg : 1 ≤ pg ∧ pg ≤ 100) (hm : 3 ≤ mem ∧ mem ≤ 12) (hs : (jn0 A B A.length).length ≤ 120) (hp : M 95 2 = (pg : Int)) (hmem : M 95 3 = (mem : Int)) (hA : zRow M r A) (hB : zRow M q B) (hL : zOut M []) (kk : ∀ M' : zM, (zOut M' (jn0 A B A.length) ∧ ∀ o, o ≠ 36 → o ≠ 37 → o ≠ 38 → o ≠ 89 → M' o = M o) → G X M' (pc + 3) lv st) : G X M pc lv (.int (jI (0)) :: .ref (zA X (3 * q)) :: .ref (zA X (3 * r)) :: .ref (zA X (95)) :: st) := by
  refine g_callV (k := 3) (o := 95) C (c_merge0 (zL X) hr hq hr12 hq12 hbA hbB huA huB pg mem hpg hm hs M hp hmem hA hB hL) mfX8_joinByMerging hl0 ⟨rfl, by decide +kernel, by decide +kernel, by decide +kernel⟩ ⟨hdep, by decide⟩ (by omega) (fun _ _ _ _ => ze_ms) rfl rfl rfl rfl hcat hlen hdec (fun v M' h => ?_)
  obtain ⟨rfl, h⟩ := h
  exact kk M' h
set_option maxHeartbeats 4000000 in
set_option maxRecDepth 10000 in
theorem c_mergeX (l : Launch) {r q : Nat} (hr : r < 20) (hq : q < 20) (hr12 : r ≠ 12) (hq12 : q ≠ 12) {A B : List (Int × Int)} (hbA : zIn A) (hbB : zIn B) (huA : upB A = true) (huB : upB B = true) (pg mem : Nat) (hpg : 1 ≤ pg ∧ pg ≤ 100) (hm : 3 ≤ mem ∧ mem ≤ 12) (w : Int) (hw : w = 2 ∨ w = 3) (M : zM) (hp : M 95 2 = (pg : Int)) (hmem : M 95 3 = (mem : Int)) (hA : zRow M r A) (hB : zRow M q B) (hL : zOut M []) : Mt l 5 yX8_joinByMerging cX8_joinByMerging 10 none (fun ad => [.ref (ad (95)), .ref (ad (3 * r)), .ref (ad (3 * q)), .int (jI (w))]) M (fun _ vv M' => vv = none ∧ (zOut M' (jnX A B w A.length) ∧ ∀ o, o ≠ 36 → o ≠ 37 → o ≠ 38 → o ≠ 89 → M' o = M o)) := by
  refine Mt.of (fun ad => [some (.ref (ad (95))), some (.ref (ad (3 * r))), some (.ref (ad (3 * q))), some (.int (jI (w))), none, none, none, none, none, none]) (by decide +kernel) (fun _ => rfl) (fun _ => rfl) (fun _ => Nat.le_of_ble_eq_true rfl) fun X hX C hR => ?_
  subst hX
  show G X M 0 [some (.ref ((zA X) (95))), some (.ref ((zA X) (3 * r))), some (.ref ((zA X) (3 * q))), some (.int (jI (w))), none, none, none, none, none, none] []
  have hB120 := hB.2.1
  have hA120 := hA.2.1
  have lp : ∀ (fk : Nat) (i l e : Nat) (s6 : Int) (N : zM), 200 - i < fk → i ≤ A.length → ((i = 0 ∧ l = 0 ∧ e = 0) ∨ (0 < i ∧ l = lc B (kA A (i - 1)) ∧ e = lc B (kA A (i - 1)) + kc B (kA A (i - 1)))) → zOut N (jnX A B w i) → (∀ o, o ≠ 36 → o ≠ 37 → o ≠ 38 → o ≠ 89 → N o = M o) → G X N 42 [some (.ref (zA X 95)), some (.ref (zA X (3 * r))), some (.ref (zA X (3 * q))), some (.int (jI (w))), some (.int (jI ((l : Int)))), some (.int (jI ((e : Int)))), some (.int (jI s6)), some (.int (jI ((i : Int)))), none, none] [] := by
    intro fk
    induction fk with
    | zero => intro i l e s6 N hk; exact absurd hk (Nat.not_lt_zero _)
    | succ fk ih =>
      intro i l e s6 N hk i1 hle hO hF
      have hA2 : zRow N r A := hA.apo hF hr12 hr
      have hB2 : zRow N q B := hB.apo hF hq12 hq
      have hB120 := hB.2.1
      have hA120 := hA.2.1
      have hp2 : N 95 2 = (pg : Int) := by rw [hF 95 (by omega) (by omega) (by omega) (by omega)]; exact hp
      have hmem2 : N 95 3 = (mem : Int) := by rw [hF 95 (by omega) (by omega) (by omega) (by omega)]; exact hmem
      have bi := hbA.at i
      have bi1 := hbA.at (i - 1)
      have hlc := lc_le B (kA A i)
      refine g_iload C dX8_joinByMerging_42 rfl ?_
      refine g_aload_n C dX8_joinByMerging_44 rfl ?_
      refine gc_Row_count C (by decide) tw_390 (Nat.le_of_ble_eq_true rfl) rfl dX8_joinByMerging_45 hr hA2 (?_)
      refine g_icmp_ge (tgt := 236) C dX8_joinByMerging_48 rfl (by omega) (by omega) (fun h48 => ?_) (fun h48 => ?_)
      · refine g_aload_n C dX8_joinByMerging_236 rfl ?_
        refine gf_Ms_outcome C tw_225 dX8_joinByMerging_237 ?_
        refine g_dup C dX8_joinByMerging_240 rfl ?_
        refine gf_Out_writtenPages C tw_162 dX8_joinByMerging_241 ?_
        refine g_aload_n C dX8_joinByMerging_244 rfl ?_
        refine gf_Ms_outcome C tw_225 dX8_joinByMerging_245 ?_
        show G X _ 248 _ _
        refine gf_Out_made C tw_158 dX8_joinByMerging_248 ?_
        rw [hO.2]
        refine g_aload_n C dX8_joinByMerging_251 rfl ?_
        refine gf_Ms_page C tw_216 dX8_joinByMerging_252 ?_
        rw [hp2]
        refine gc_pagesFor C (by decide) tw_722 (Nat.le_of_ble_eq_true rfl) rfl dX8_joinByMerging_255 _ _ (by have := hO.1.2.1; omega) (by omega) (?_)
        refine g_iadd C dX8_joinByMerging_258 ?_
        refine gp_Out_writtenPages C tw_162 dX8_joinByMerging_259 ?_
        show G X _ 262 _ _
        refine g_vret C hR dX8_joinByMerging_262 ?_
        rw [show i = A.length by omega] at hO
        refine ⟨rfl, hO.pages (fun o a => zu_o _ _ _ _ a) (zu_k _ _ _ _ (by omega)), fun o a b d e => ?_⟩
        rw [zu_o _ _ _ _ e]; exact hF o a b d e
      · have hi : i < A.length := by omega
        have d155 : ∀ (s2 : Int) (v9 : Option Value) (N2 : zM), zOut N2 (jnX A B w i) → (∀ o, o ≠ 36 → o ≠ 37 → o ≠ 38 → o ≠ 89 → N2 o = M o) → G X N2 155 [some (.ref (zA X 95)), some (.ref (zA X (3 * r))), some (.ref (zA X (3 * q))), some (.int (jI (w))), some (.int (jI ((lc B (kA A i) : Int)))), some (.int (jI (((lc B (kA A i) + kc B (kA A i) : Nat) : Int)))), some (.int (jI s2)), some (.int (jI ((i : Int)))), some (.int (jI (kA A i))), v9] [] := by
          intro s2 v9 N2 hO2 hF2
          refine g_aload_n C dX8_joinByMerging_155 rfl ?_
          refine gf_Ms_outcome C tw_225 dX8_joinByMerging_156 ?_
          refine g_dup C dX8_joinByMerging_159 rfl ?_
          refine gf_Out_readPages C tw_160 dX8_joinByMerging_160 ?_
          refine g_iload C dX8_joinByMerging_163 rfl ?_
          refine g_iadd C dX8_joinByMerging_165 ?_
          show G X _ 166 _ _
          refine gp_Out_readPages C tw_160 dX8_joinByMerging_166 ?_
          generalize hN3 : zu N2 89 2 (N2 89 2 + s2) = N3
          have hF3 : ∀ o, o ≠ 36 → o ≠ 37 → o ≠ 38 → o ≠ 89 → N3 o = M o := fun o a b d e => by rw [← hN3, zu_o _ _ _ _ e]; exact hF2 o a b d e
          have hA3 : zRow N3 r A := hA.apo hF3 hr12 hr
          have hO3 : zOut N3 (jnX A B w i) := by rw [← hN3]; exact hO2.pages (fun o a => zu_o _ _ _ _ a) (zu_k _ _ _ _ (by omega))
          have hlen := jnX_len (A := A) (B := B) (w := w) i
          have hlcl := lc_le B (kA A i + 1)
          rw [lc_succ] at hlcl
          have fin : ∀ N4 : zM, zOut N4 (jnX A B w (i + 1)) → (∀ o, o ≠ 36 → o ≠ 37 → o ≠ 38 → o ≠ 89 → N4 o = M o) → ∀ v9 v8 : Option Value, G X N4 42 [some (.ref (zA X 95)), some (.ref (zA X (3 * r))), some (.ref (zA X (3 * q))), some (.int (jI (w))), some (.int (jI ((lc B (kA A i) : Int)))), some (.int (jI (((lc B (kA A i) + kc B (kA A i) : Nat) : Int)))), some (.int (jI s2)), some (.int (jI (((i + 1 : Nat) : Int)))), v8, v9] [] := fun N4 hO4 hF4 v9 v8 => by
            refine g_mask [true, true, true, true, true, true, true, true, false, false] rfl ?_
            show G X _ 42 [_, _, _, _, _, _, _, _, _, _] _
            exact ih (i + 1) (lc B (kA A i)) (lc B (kA A i) + kc B (kA A i)) s2 _ (by omega) (by omega) (Or.inr ⟨by omega, by simp, by simp⟩) hO4 hF4
          refine g_iload_n C dX8_joinByMerging_169 rfl ?_
          refine g_iconst C dX8_joinByMerging_170 ?_
          refine g_icmp_gt (tgt := 186) C dX8_joinByMerging_171 rfl (by omega) (by omega) (fun h171 => ?_) (fun h171 => ?_)
          · refine g_iload_n C dX8_joinByMerging_186 rfl ?_
            refine g_if_eq (tgt := 230) C dX8_joinByMerging_187 rfl (by omega) (fun h187 => ?_) (fun h187 => ?_)
            · omega
            · refine g_iload_n C dX8_joinByMerging_190 rfl ?_
              refine g_iconst C dX8_joinByMerging_191 ?_
              refine g_icmp_ne (tgt := 199) C dX8_joinByMerging_192 rfl (by omega) (by omega) (fun h192 => ?_) (fun h192 => ?_)
              · refine g_iconst C dX8_joinByMerging_199 ?_
                refine g_iload C dX8_joinByMerging_200 rfl ?_
                refine g_iload C dX8_joinByMerging_202 rfl ?_
                refine g_icmp_le (tgt := 211) C dX8_joinByMerging_204 rfl (by omega) (by omega) (fun h204 => ?_) (fun h204 => ?_)
                · refine g_iconst C dX8_joinByMerging_211 ?_
                  refine g_icmp_ne (tgt := 230) C dX8_joinByMerging_212 rfl (by omega) (by omega) (fun h212 => ?_) (fun h212 => ?_)
                  · refine g_iinc C dX8_joinByMerging_230 rfl ?_
                    show G X _ 233 [_, _, _, _, _, _, _, _, _, _] _
                    refine g_goto (tgt := 42) C dX8_joinByMerging_233 rfl ?_
                    show G X _ 42 _ _
                    first
                      | (exfalso; omega)
                      | (refine fin _ ?_ (fun o a b d e => ?_) _ _
                         · rw [jnX, if_neg (by omega), List.append_nil]; exact hO3
                         · exact hF3 o a b d e)
                  · refine g_aload_n C dX8_joinByMerging_215 rfl ?_
                    refine gf_Ms_outcome C tw_225 dX8_joinByMerging_216 ?_
                    refine g_iload C dX8_joinByMerging_219 rfl ?_
                    refine g_aload_n C dX8_joinByMerging_221 rfl ?_
                    refine g_iload C dX8_joinByMerging_222 rfl ?_
                    refine gc_Row_markAt C (by decide) tw_427 (Nat.le_of_ble_eq_true rfl) rfl dX8_joinByMerging_224 hr i hi hA3 (?_)
                    show G X _ 227 _ _
                    refine gc_Out_give C (by decide) tw_605 (Nat.le_of_ble_eq_true rfl) rfl dX8_joinByMerging_227 _ _ (by omega) hO3 (fun N5 ⟨n1, n2⟩ => ?_)
                    refine g_iinc C dX8_joinByMerging_230 rfl ?_
                    show G X _ 233 [_, _, _, _, _, _, _, _, _, _] _
                    refine g_goto (tgt := 42) C dX8_joinByMerging_233 rfl ?_
                    show G X _ 42 _ _
                    first
                      | (exfalso; omega)
                      | (refine fin _ ?_ (fun o a b d e => ?_) _ _
                         · rw [jnX, if_pos (by omega)]; exact n1
                         · exact (n2.1 o a b d e).trans (hF3 o a b d e))
                · refine g_iconst C dX8_joinByMerging_207 ?_
                  refine g_goto (tgt := 212) C dX8_joinByMerging_208 rfl ?_
                  show G X _ 212 _ _
                  refine g_icmp_ne (tgt := 230) C dX8_joinByMerging_212 rfl (by omega) (by omega) (fun h212 => ?_) (fun h212 => ?_)
                  · refine g_iinc C dX8_joinByMerging_230 rfl ?_
                    show G X _ 233 [_, _, _, _, _, _, _, _, _, _] _
                    refine g_goto (tgt := 42) C dX8_joinByMerging_233 rfl ?_
                    show G X _ 42 _ _
                    first
                      | (exfalso; omega)
                      | (refine fin _ ?_ (fun o a b d e => ?_) _ _
                         · rw [jnX, if_neg (by omega), List.append_nil]; exact hO3
                         · exact hF3 o a b d e)
                  · refine g_aload_n C dX8_joinByMerging_215 rfl ?_
                    refine gf_Ms_outcome C tw_225 dX8_joinByMerging_216 ?_
                    refine g_iload C dX8_joinByMerging_219 rfl ?_
                    refine g_aload_n C dX8_joinByMerging_221 rfl ?_
                    refine g_iload C dX8_joinByMerging_222 rfl ?_
                    refine gc_Row_markAt C (by decide) tw_427 (Nat.le_of_ble_eq_true rfl) rfl dX8_joinByMerging_224 hr i hi hA3 (?_)
                    show G X _ 227 _ _
                    refine gc_Out_give C (by decide) tw_605 (Nat.le_of_ble_eq_true rfl) rfl dX8_joinByMerging_227 _ _ (by omega) hO3 (fun N5 ⟨n1, n2⟩ => ?_)
                    refine g_iinc C dX8_joinByMerging_230 rfl ?_
                    show G X _ 233 [_, _, _, _, _, _, _, _, _, _] _
                    refine g_goto (tgt := 42) C dX8_joinByMerging_233 rfl ?_
                    show G X _ 42 _ _
                    first
                      | (exfalso; omega)
                      | (refine fin _ ?_ (fun o a b d e => ?_) _ _
                         · rw [jnX, if_pos (by omega)]; exact n1
                         · exact (n2.1 o a b d e).trans (hF3 o a b d e))
              · refine g_iconst C dX8_joinByMerging_195 ?_
                refine g_goto (tgt := 200) C dX8_joinByMerging_196 rfl ?_
                show G X _ 200 _ _
                refine g_iload C dX8_joinByMerging_200 rfl ?_
                refine g_iload C dX8_joinByMerging_202 rfl ?_
                refine g_icmp_le (tgt := 211) C dX8_joinByMerging_204 rfl (by omega) (by omega) (fun h204 => ?_) (fun h204 => ?_)
                · refine g_iconst C dX8_joinByMerging_211 ?_
                  refine g_icmp_ne (tgt := 230) C dX8_joinByMerging_212 rfl (by omega) (by omega) (fun h212 => ?_) (fun h212 => ?_)
                  · refine g_iinc C dX8_joinByMerging_230 rfl ?_
                    show G X _ 233 [_, _, _, _, _, _, _, _, _, _] _
                    refine g_goto (tgt := 42) C dX8_joinByMerging_233 rfl ?_
                    show G X _ 42 _ _
                    first
                      | (exfalso; omega)
                      | (refine fin _ ?_ (fun o a b d e => ?_) _ _
                         · rw [jnX, if_neg (by omega), List.append_nil]; exact hO3
                         · exact hF3 o a b d e)
                  · refine g_aload_n C dX8_joinByMerging_215 rfl ?_
                    refine gf_Ms_outcome C tw_225 dX8_joinByMerging_216 ?_
                    refine g_iload C dX8_joinByMerging_219 rfl ?_
                    refine g_aload_n C dX8_joinByMerging_221 rfl ?_
                    refine g_iload C dX8_joinByMerging_222 rfl ?_
                    refine gc_Row_markAt C (by decide) tw_427 (Nat.le_of_ble_eq_true rfl) rfl dX8_joinByMerging_224 hr i hi hA3 (?_)
                    show G X _ 227 _ _
                    refine gc_Out_give C (by decide) tw_605 (Nat.le_of_ble_eq_true rfl) rfl dX8_joinByMerging_227 _ _ (by omega) hO3 (fun N5 ⟨n1, n2⟩ => ?_)
                    refine g_iinc C dX8_joinByMerging_230 rfl ?_
                    show G X _ 233 [_, _, _, _, _, _, _, _, _, _] _
                    refine g_goto (tgt := 42) C dX8_joinByMerging_233 rfl ?_
                    show G X _ 42 _ _
                    first
                      | (exfalso; omega)
                      | (refine fin _ ?_ (fun o a b d e => ?_) _ _
                         · rw [jnX, if_pos (by omega)]; exact n1
                         · exact (n2.1 o a b d e).trans (hF3 o a b d e))
                · refine g_iconst C dX8_joinByMerging_207 ?_
                  refine g_goto (tgt := 212) C dX8_joinByMerging_208 rfl ?_
                  show G X _ 212 _ _
                  refine g_icmp_ne (tgt := 230) C dX8_joinByMerging_212 rfl (by omega) (by omega) (fun h212 => ?_) (fun h212 => ?_)
                  · refine g_iinc C dX8_joinByMerging_230 rfl ?_
                    show G X _ 233 [_, _, _, _, _, _, _, _, _, _] _
                    refine g_goto (tgt := 42) C dX8_joinByMerging_233 rfl ?_
                    show G X _ 42 _ _
                    first
                      | (exfalso; omega)
                      | (refine fin _ ?_ (fun o a b d e => ?_) _ _
                         · rw [jnX, if_neg (by omega), List.append_nil]; exact hO3
                         · exact hF3 o a b d e)
                  · refine g_aload_n C dX8_joinByMerging_215 rfl ?_
                    refine gf_Ms_outcome C tw_225 dX8_joinByMerging_216 ?_
                    refine g_iload C dX8_joinByMerging_219 rfl ?_
                    refine g_aload_n C dX8_joinByMerging_221 rfl ?_
                    refine g_iload C dX8_joinByMerging_222 rfl ?_
                    refine gc_Row_markAt C (by decide) tw_427 (Nat.le_of_ble_eq_true rfl) rfl dX8_joinByMerging_224 hr i hi hA3 (?_)
                    show G X _ 227 _ _
                    refine gc_Out_give C (by decide) tw_605 (Nat.le_of_ble_eq_true rfl) rfl dX8_joinByMerging_227 _ _ (by omega) hO3 (fun N5 ⟨n1, n2⟩ => ?_)
                    refine g_iinc C dX8_joinByMerging_230 rfl ?_
                    show G X _ 233 [_, _, _, _, _, _, _, _, _, _] _
                    refine g_goto (tgt := 42) C dX8_joinByMerging_233 rfl ?_
                    show G X _ 42 _ _
                    first
                      | (exfalso; omega)
                      | (refine fin _ ?_ (fun o a b d e => ?_) _ _
                         · rw [jnX, if_pos (by omega)]; exact n1
                         · exact (n2.1 o a b d e).trans (hF3 o a b d e))
          · omega
        have d153 : ∀ (s0 v : Int) (v9 : Option Value) (N2 : zM), zOut N2 (jnX A B w i) → (∀ o, o ≠ 36 → o ≠ 37 → o ≠ 38 → o ≠ 89 → N2 o = M o) → G X N2 153 [some (.ref (zA X 95)), some (.ref (zA X (3 * r))), some (.ref (zA X (3 * q))), some (.int (jI (w))), some (.int (jI ((lc B (kA A i) : Int)))), some (.int (jI (((lc B (kA A i) + kc B (kA A i) : Nat) : Int)))), some (.int (jI s0)), some (.int (jI ((i : Int)))), some (.int (jI (kA A i))), v9] [.int (jI v)] := by
          intro s0 v v9 N2 hO2 hF2
          refine g_istore C dX8_joinByMerging_153 (Nat.le_of_ble_eq_true rfl) ?_
          show G X _ 155 [_, _, _, _, _, _, _, _, _, _] _
          exact d155 v v9 N2 hO2 hF2
        have d128 : ∀ v : Int, 0 ≤ v ∧ v ≤ 1 → G X N 128 [some (.ref (zA X 95)), some (.ref (zA X (3 * r))), some (.ref (zA X (3 * q))), some (.int (jI (w))), some (.int (jI ((lc B (kA A i) : Int)))), some (.int (jI (((lc B (kA A i) + kc B (kA A i) : Nat) : Int)))), some (.int (jI s6)), some (.int (jI ((i : Int)))), some (.int (jI (kA A i))), none] [.int (jI v)] := by
          intro v hv
          refine g_istore C dX8_joinByMerging_128 (Nat.le_of_ble_eq_true rfl) ?_
          show G X _ 130 [_, _, _, _, _, _, _, _, _, _] _
          refine g_iload_n C dX8_joinByMerging_130 rfl ?_
          refine g_iconst C dX8_joinByMerging_131 ?_
          refine g_icmp_gt (tgt := 152) C dX8_joinByMerging_132 rfl (by omega) (by omega) (fun h132 => ?_) (fun h132 => ?_)
          · refine g_iconst C dX8_joinByMerging_152 ?_
            exact d153 s6 0 _ N hO hF
          · omega
        have d77 : ∀ l9 : Nat, e ≤ lc B (kA A i) → G X N 77 [some (.ref (zA X 95)), some (.ref (zA X (3 * r))), some (.ref (zA X (3 * q))), some (.int (jI (w))), some (.int (jI ((l9 : Int)))), some (.int (jI ((e : Int)))), some (.int (jI s6)), some (.int (jI ((i : Int)))), some (.int (jI (kA A i))), none] [] := by
          intro l9 he
          refine g_aload_n C dX8_joinByMerging_77 rfl ?_
          refine g_iload C dX8_joinByMerging_78 rfl ?_
          refine g_iload C dX8_joinByMerging_80 rfl ?_
          refine gc_Row_placeNotBelow C (by decide) tw_723 (Nat.le_of_ble_eq_true rfl) rfl dX8_joinByMerging_82 hq (kA A i) e (by omega) (by omega) hB2 hbB (?_)
          rw [pnb_lc huB he]
          refine g_istore C dX8_joinByMerging_85 (Nat.le_of_ble_eq_true rfl) ?_
          show G X _ 87 [_, _, _, _, _, _, _, _, _, _] _
          refine g_aload_n C dX8_joinByMerging_87 rfl ?_
          refine g_iload C dX8_joinByMerging_88 rfl ?_
          refine g_iconst C dX8_joinByMerging_90 ?_
          refine g_iadd C dX8_joinByMerging_91 ?_
          refine g_iload C dX8_joinByMerging_92 rfl ?_
          refine gc_Row_placeNotBelow C (by decide) tw_723 (Nat.le_of_ble_eq_true rfl) rfl dX8_joinByMerging_94 hq (kA A i + 1) (lc B (kA A i)) (by omega) (by omega) hB2 hbB (?_)
          rw [pnb_lc huB (lc_mono (by omega)), lc_succ]
          show G X _ 97 _ _
          refine g_istore C dX8_joinByMerging_97 (Nat.le_of_ble_eq_true rfl) ?_
          show G X _ 99 [_, _, _, _, _, _, _, _, _, _] _
          refine g_aload_n C dX8_joinByMerging_99 rfl ?_
          refine g_iload C dX8_joinByMerging_100 rfl ?_
          refine g_iconst C dX8_joinByMerging_102 ?_
          refine g_iadd C dX8_joinByMerging_103 ?_
          refine gc_Row_has C (by decide) tw_422 (Nat.le_of_ble_eq_true rfl) rfl dX8_joinByMerging_104 hr _ (by omega) hA2 (?_)
          refine g_if_eq (tgt := 127) C dX8_joinByMerging_107 rfl (by by_cases z : 0 ≤ (i : Int) + 1 ∧ (i : Int) + 1 < (A.length : Int) <;> simp [z]) (fun h107 => ?_) (fun h107 => ?_)
          · refine g_iconst C dX8_joinByMerging_127 ?_
            exact d128 0 (by omega)
          · refine g_aload_n C dX8_joinByMerging_110 rfl ?_
            refine g_iload C dX8_joinByMerging_111 rfl ?_
            refine g_iconst C dX8_joinByMerging_113 ?_
            refine g_iadd C dX8_joinByMerging_114 ?_
            have z : 0 ≤ (i : Int) + 1 ∧ (i : Int) + 1 < (A.length : Int) := by
              by_cases z : 0 ≤ (i : Int) + 1 ∧ (i : Int) + 1 < (A.length : Int)
              · exact z
              · rw [if_neg z] at h107; omega
            have bz := hbA.at (i + 1)
            rw [show (i : Int) + 1 = ((i + 1 : Nat) : Int) by omega]
            refine gc_Row_keyAt C (by decide) tw_431 (Nat.le_of_ble_eq_true rfl) rfl dX8_joinByMerging_115 hr (i + 1) (by omega) hA2 (?_)
            refine g_iload C dX8_joinByMerging_118 rfl ?_
            show G X _ 120 _ _
            refine g_icmp_ne (tgt := 127) C dX8_joinByMerging_120 rfl (by omega) (by omega) (fun h120 => ?_) (fun h120 => ?_)
            · refine g_iconst C dX8_joinByMerging_127 ?_
              exact d128 0 (by omega)
            · refine g_iconst C dX8_joinByMerging_123 ?_
              refine g_goto (tgt := 128) C dX8_joinByMerging_124 rfl ?_
              show G X _ 128 _ _
              exact d128 1 (by omega)
        refine g_aload_n C dX8_joinByMerging_51 rfl ?_
        refine g_iload C dX8_joinByMerging_52 rfl ?_
        refine gc_Row_keyAt C (by decide) tw_431 (Nat.le_of_ble_eq_true rfl) rfl dX8_joinByMerging_54 hr i (by omega) hA2 (?_)
        refine g_istore C dX8_joinByMerging_57 (Nat.le_of_ble_eq_true rfl) ?_
        show G X _ 59 [_, _, _, _, _, _, _, _, _, _] _
        refine g_iload C dX8_joinByMerging_59 rfl ?_
        refine g_if_eq (tgt := 77) C dX8_joinByMerging_61 rfl (by omega) (fun h61 => ?_) (fun h61 => ?_)
        · exact d77 l (by omega)
        · refine g_aload_n C dX8_joinByMerging_64 rfl ?_
          refine g_iload C dX8_joinByMerging_65 rfl ?_
          refine g_iconst C dX8_joinByMerging_67 ?_
          refine g_isub C dX8_joinByMerging_68 ?_
          rw [show (i : Int) - 1 = ((i - 1 : Nat) : Int) by omega]
          refine gc_Row_keyAt C (by decide) tw_431 (Nat.le_of_ble_eq_true rfl) rfl dX8_joinByMerging_69 hr (i - 1) (by omega) hA2 (?_)
          refine g_iload C dX8_joinByMerging_72 rfl ?_
          show G X _ 74 _ _
          refine g_icmp_eq (tgt := 155) C dX8_joinByMerging_74 rfl (by omega) (by omega) (fun h74 => ?_) (fun h74 => ?_)
          · obtain ⟨q0, rfl, rfl⟩ : 0 < i ∧ l = lc B (kA A (i - 1)) ∧ e = lc B (kA A (i - 1)) + kc B (kA A (i - 1)) := by omega
            rw [h74]
            exact d155 s6 none N hO hF
          · obtain ⟨q0, rfl, rfl⟩ : 0 < i ∧ l = lc B (kA A (i - 1)) ∧ e = lc B (kA A (i - 1)) + kc B (kA A (i - 1)) := by omega
            have hup := up_le huA (i - 1) i (by omega) hi
            refine d77 _ ?_
            rw [← lc_succ]
            exact lc_mono (by omega)
  refine g_aload_n C dX8_joinByMerging_0 rfl ?_
  refine gf_Ms_outcome C tw_225 dX8_joinByMerging_1 ?_
  refine g_aload_n C dX8_joinByMerging_4 rfl ?_
  refine gc_Row_count C (by decide) tw_390 (Nat.le_of_ble_eq_true rfl) rfl dX8_joinByMerging_5 hr hA (?_)
  refine g_aload_n C dX8_joinByMerging_8 rfl ?_
  refine gf_Ms_page C tw_216 dX8_joinByMerging_9 ?_
  rw [hp]
  show G X _ 12 _ _
  refine gc_pagesFor C (by decide) tw_722 (Nat.le_of_ble_eq_true rfl) rfl dX8_joinByMerging_12 _ _ (by omega) (by omega) (?_)
  refine g_aload_n C dX8_joinByMerging_15 rfl ?_
  refine gc_Row_count C (by decide) tw_390 (Nat.le_of_ble_eq_true rfl) rfl dX8_joinByMerging_16 hq hB (?_)
  refine g_aload_n C dX8_joinByMerging_19 rfl ?_
  refine gf_Ms_page C tw_216 dX8_joinByMerging_20 ?_
  rw [hp]
  refine gc_pagesFor C (by decide) tw_722 (Nat.le_of_ble_eq_true rfl) rfl dX8_joinByMerging_23 _ _ (by omega) (by omega) (?_)
  show G X _ 26 _ _
  refine g_iadd C dX8_joinByMerging_26 ?_
  refine gp_Out_readPages C tw_160 dX8_joinByMerging_27 ?_
  refine g_iconst C dX8_joinByMerging_30 ?_
  refine g_istore C dX8_joinByMerging_31 (Nat.le_of_ble_eq_true rfl) ?_
  show G X _ 33 [_, _, _, _, _, _, _, _, _, _] _
  refine g_iconst C dX8_joinByMerging_33 ?_
  refine g_istore C dX8_joinByMerging_34 (Nat.le_of_ble_eq_true rfl) ?_
  show G X _ 36 [_, _, _, _, _, _, _, _, _, _] _
  refine g_iconst C dX8_joinByMerging_36 ?_
  refine g_istore C dX8_joinByMerging_37 (Nat.le_of_ble_eq_true rfl) ?_
  show G X _ 39 [_, _, _, _, _, _, _, _, _, _] _
  refine g_iconst C dX8_joinByMerging_39 ?_
  refine g_istore C dX8_joinByMerging_40 (Nat.le_of_ble_eq_true rfl) ?_
  show G X _ 42 [_, _, _, _, _, _, _, _, _, _] _
  exact lp 300 0 0 0 0 _ (by omega) (Nat.zero_le _) (Or.inl ⟨rfl, rfl, rfl⟩) (hL.pages (fun o a => zu_o _ _ _ _ a) (zu_k _ _ _ _ (by omega))) (fun o _ _ _ e => zu_o _ _ _ _ e)
theorem gc_mergeX {X : z_X} {cc : ByteArray} {own : String} {ret : Option FieldType} {dC nC : Nat} {M : zM} {pc : Nat} {lv : List (Option Value)} {st : List Value} (C : Cx cc own ret dC nC X) (hdep : 6 ≤ dC) {idx : Nat} (hl0 : Cond.methodLink own idx yX8_joinByMerging ∈ tT) (hcat : (st.map fun v => v.category).sum ≤ 8) (hlen : lv.length = nC) (hdec : decode cc pc = .ok (.invokevirtual idx, 3)) {r q : Nat} (hr : r < 20) (hq : q < 20) (hr12 : r ≠ 12) (hq12 : q ≠ 12) {A B : List (Int × Int)} (hbA : zIn A) (hbB : zIn B) (huA : upB A = true) (huB : upB B = true) (pg mem : Nat) (hpg : 1 ≤ pg ∧ pg ≤ 100) (hm : 3 ≤ mem ∧ mem ≤ 12) (w : Int) (hw : w = 2 ∨ w = 3) (hp : M 95 2 = (pg : Int)) (hmem : M 95 3 = (mem : Int)) (hA : zRow M r A) (hB : zRow M q B) (hL : zOut M []) (kk : ∀ M' : zM, (zOut M' (jnX A B w A.length) ∧ ∀ o, o ≠ 36 → o ≠ 37 → o ≠ 38 → o ≠ 89 → M' o = M o) → G X M' (pc + 3) lv st) : G X M pc lv (.int (jI (w)) :: .ref (zA X (3 * q)) :: .ref (zA X (3 * r)) :: .ref (zA X (95)) :: st) := by
  refine g_callV (k := 3) (o := 95) C (c_mergeX (zL X) hr hq hr12 hq12 hbA hbB huA huB pg mem hpg hm w hw M hp hmem hA hB hL) mfX8_joinByMerging hl0 ⟨rfl, by decide +kernel, by decide +kernel, by decide +kernel⟩ ⟨hdep, by decide⟩ (by omega) (fun _ _ _ _ => ze_ms) rfl rfl rfl rfl hcat hlen hdec (fun v M' h => ?_)
  obtain ⟨rfl, h⟩ := h
  exact kk M' h
