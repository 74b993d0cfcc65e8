/-! the heap's methods -/
set_option maxHeartbeats 4000000 in
set_option maxRecDepth 10000 in
theorem c_Heap_empty (l : Launch) {r : Nat} (hr : r < 3) (M : zM)  : Mt l 1 yX0_empty cX0_empty 1 none (fun ad => [.ref (ad (76 + 2 * r))]) M (fun _ vv M' => vv = none ∧ (zHp M' r [] ∧ zFh M M' r)) := by
  refine Mt.of (fun ad => [some (.ref (ad (76 + 2 * r)))]) (by decide +kernel) (fun _ => rfl) (fun _ => rfl) (fun _ => Nat.le_of_ble_eq_true rfl) fun X hX C hR => ?_
  subst hX
  show G X M 0 [some (.ref ((zA X) (76 + 2 * r)))] []
  refine g_aload_n C dX0_empty_0 rfl ?_
  refine g_iconst C dX0_empty_1 ?_
  refine gp_Heap_count C (by omega) tw_54 dX0_empty_2 ?_
  refine g_vret C hR dX0_empty_5 ?_
  refine ⟨rfl, ⟨by rw [zu_s]; rfl, by simp, List.Pairwise.nil, fun w hw => absurd hw List.not_mem_nil, fun w => rfl, fun i h1 h2 => absurd h2 (Nat.not_lt_zero _)⟩, fun o h0 h1 => zu_o _ _ _ _ h0⟩
theorem gc_Heap_empty {X : z_X} {cc : ByteArray} {own : String} {ret : Option FieldType} {dC nC : Nat} {M : zM} {pc : Nat} {lv : List (Option Value)} {st : List Value} (C : Cx cc own ret dC nC X) (hdep : 2 ≤ dC) {idx : Nat} (hl0 : Cond.methodLink own idx yX0_empty ∈ tT) (hcat : (st.map fun v => v.category).sum ≤ 8) (hlen : lv.length = nC) (hdec : decode cc pc = .ok (.invokevirtual idx, 3)) {r : Nat} (hr : r < 3)  (kk : ∀ M' : zM, (zHp M' r [] ∧ zFh M M' r) → G X M' (pc + 3) lv st) : G X M pc lv (.ref (zA X (76 + 2 * r)) :: st) := by
  refine g_callV (k := 0) (o := 76 + 2 * r) C (c_Heap_empty (zL X) hr M ) mfX0_empty hl0 ⟨rfl, by decide +kernel, by decide +kernel, by decide +kernel⟩ ⟨hdep, by decide⟩ (by omega) (fun _ _ _ _ => ze_heap (by omega)) rfl rfl rfl rfl hcat hlen hdec (fun v M' h => ?_)
  obtain ⟨rfl, h⟩ := h
  exact kk M' h
set_option maxHeartbeats 4000000 in
set_option maxRecDepth 10000 in
theorem c_Heap_push (l : Launch) {r : Nat} (hr : r < 3) {S : List Int} (v : Int) (hv : 0 ≤ v ∧ v ≤ 2000000000) (hs : S.length < 120) (M : zM) (hS : zHp M r S) : Mt l 1 yX0_push cX0_push 3 none (fun ad => [.ref (ad (76 + 2 * r)), .int (jI (v))]) M (fun _ vv M' => vv = none ∧ (zHp M' r (insS v S) ∧ zFh M M' r)) := by
  refine Mt.of (fun ad => [some (.ref (ad (76 + 2 * r))), some (.int (jI (v))), none]) (by decide +kernel) (fun _ => rfl) (fun _ => rfl) (fun _ => Nat.le_of_ble_eq_true rfl) fun X hX C hR => ?_
  subst hX
  show G X M 0 [some (.ref ((zA X) (76 + 2 * r))), some (.int (jI (v))), none] []
  have hl2 := hS.2.1
  have lp : ∀ (fk : Nat) (p : Nat) (N : zM), p < fk → p ≤ S.length → zFh M N r → N (76 + 2 * r) 1 = (S.length : Int) + 1 → (∀ w, cN (va_up (N (77 + 2 * r)) p v) (S.length + 1) w = S.count w + (if v = w then 1 else 0)) → hJ (va_up (N (77 + 2 * r)) p v) S.length p → G X N 28 [some (.ref (zA X (76 + 2 * r))), some (.int (jI v)), some (.int (jI (p : Int)))] [] := by
    intro fk
    induction fk with
    | zero => intro p N hk; exact absurd hk (Nat.not_lt_zero _)
    | succ fk ih =>
      intro p N hk h1 hF h2 hN hJ1
      have zb : ∀ i, i < S.length + 1 → 0 ≤ va_up (N (77 + 2 * r)) p v i ∧ va_up (N (77 + 2 * r)) p v i ≤ 2000000000 := fun i hi => by
        have g := cN_pos (A := va_up (N (77 + 2 * r)) p v) hi
        rw [hN] at g
        by_cases q : v = va_up (N (77 + 2 * r)) p v i
        · rw [← q]; exact hv
        · rw [if_neg q] at g
          exact hS.2.2.2.1 _ (List.count_pos_iff.mp (by omega))
      refine g_iload_n C dX0_push_28 rfl ?_
      refine g_if_le (tgt := 71) C dX0_push_29 rfl (by omega) (fun h29 => ?_) (fun h29 => ?_)
      · refine g_aload_n C dX0_push_71 rfl ?_
        refine gf_Heap_held C (by omega) tw_53 dX0_push_72 ?_
        refine g_iload_n C dX0_push_75 rfl ?_
        refine g_iload_n C dX0_push_76 rfl ?_
        refine gs_held C (by omega) _ (by omega) rfl dX0_push_77 ?_
        refine g_vret C hR dX0_push_78 ?_
        have e4 : zu N (77 + 2 * r) p v (77 + 2 * r) = va_up (N (77 + 2 * r)) p v := by simp [zu, va_up]
        have hl : (insS v S).length = S.length + 1 := insS_len v S
        refine ⟨rfl, ⟨by rw [zu_o _ _ _ _ (by omega), h2, hl]; rfl, by omega, insS_sorted hS.2.2.1, fun w hw => ?_, fun w => ?_, ?_⟩, hF.trans fun o g1 g2 => zu_o _ _ _ _ g2⟩
        · rcases insS_mem.mp hw with rfl | hw
          · exact hv
          · exact hS.2.2.2.1 w hw
        · rw [e4, hl, hN w, insS_count]
        · rw [e4, hl]
          refine hJ_end hJ1 ?_
          first
            | exact Or.inl (by omega)
            | refine Or.inr ?_
              have e5 : va_up (N (77 + 2 * r)) p v p = v := by simp [va_up]
              rw [e0, e5]; omega
      · refine g_aload_n C dX0_push_32 rfl ?_
        refine gf_Heap_held C (by omega) tw_53 dX0_push_33 ?_
        refine g_iload_n C dX0_push_36 rfl ?_
        refine g_iconst C dX0_push_37 ?_
        refine g_isub C dX0_push_38 ?_
        refine g_iconst C dX0_push_39 ?_
        show G X _ 40 _ _
        refine g_idiv C dX0_push_40 (by omega) (by omega) ?_
        refine ga_held C (by omega) ((p - 1) / 2) (by omega) (by omega) dX0_push_41 ?_
        refine g_iload_n C dX0_push_42 rfl ?_
        have hq : (p - 1) / 2 ≠ p := by omega
        have hb := zb ((p - 1) / 2) (by omega)
        have e0 : va_up (N (77 + 2 * r)) p v ((p - 1) / 2) = N (77 + 2 * r) ((p - 1) / 2) := by simp [va_up, hq]
        rw [e0] at hb
        refine g_icmp_le (tgt := 71) C dX0_push_43 rfl (by omega) (by omega) (fun h43 => ?_) (fun h43 => ?_)
        · refine g_aload_n C dX0_push_71 rfl ?_
          refine gf_Heap_held C (by omega) tw_53 dX0_push_72 ?_
          refine g_iload_n C dX0_push_75 rfl ?_
          refine g_iload_n C dX0_push_76 rfl ?_
          refine gs_held C (by omega) _ (by omega) rfl dX0_push_77 ?_
          refine g_vret C hR dX0_push_78 ?_
          have e4 : zu N (77 + 2 * r) p v (77 + 2 * r) = va_up (N (77 + 2 * r)) p v := by simp [zu, va_up]
          have hl : (insS v S).length = S.length + 1 := insS_len v S
          refine ⟨rfl, ⟨by rw [zu_o _ _ _ _ (by omega), h2, hl]; rfl, by omega, insS_sorted hS.2.2.1, fun w hw => ?_, fun w => ?_, ?_⟩, hF.trans fun o g1 g2 => zu_o _ _ _ _ g2⟩
          · rcases insS_mem.mp hw with rfl | hw
            · exact hv
            · exact hS.2.2.2.1 w hw
          · rw [e4, hl, hN w, insS_count]
          · rw [e4, hl]
            refine hJ_end hJ1 ?_
            first
              | exact Or.inl (by omega)
              | refine Or.inr ?_
                have e5 : va_up (N (77 + 2 * r)) p v p = v := by simp [va_up]
                rw [e0, e5]; omega
        · have e3 : zu N (77 + 2 * r) p (N (77 + 2 * r) ((p - 1) / 2)) (77 + 2 * r) = va_up (N (77 + 2 * r)) p (N (77 + 2 * r) ((p - 1) / 2)) := by simp [zu, va_up]
          have hsw : ∀ w, cN (va_up (va_up (N (77 + 2 * r)) p (N (77 + 2 * r) ((p - 1) / 2))) ((p - 1) / 2) v) (S.length + 1) w = cN (va_up (N (77 + 2 * r)) p v) (S.length + 1) w := fun w => by
            rw [← cN_swap (C := va_up (N (77 + 2 * r)) p v) (p := p) (q := (p - 1) / 2) (by omega) (by omega) hq]
            congr 1
            funext j
            simp only [va_up]
            by_cases j1 : j = (p - 1) / 2 <;> by_cases j2 : j = p <;> simp [j1, j2, hq]
          refine g_aload_n C dX0_push_46 rfl ?_
          refine gf_Heap_held C (by omega) tw_53 dX0_push_47 ?_
          refine g_iload_n C dX0_push_50 rfl ?_
          refine g_aload_n C dX0_push_51 rfl ?_
          refine gf_Heap_held C (by omega) tw_53 dX0_push_52 ?_
          refine g_iload_n C dX0_push_55 rfl ?_
          show G X _ 56 _ _
          refine g_iconst C dX0_push_56 ?_
          refine g_isub C dX0_push_57 ?_
          refine g_iconst C dX0_push_58 ?_
          refine g_idiv C dX0_push_59 (by omega) (by omega) ?_
          refine ga_held C (by omega) ((p - 1) / 2) (by omega) (by omega) dX0_push_60 ?_
          refine gs_held C (by omega) _ (by omega) rfl dX0_push_61 ?_
          show G X _ 62 _ _
          refine g_iload_n C dX0_push_62 rfl ?_
          refine g_iconst C dX0_push_63 ?_
          refine g_isub C dX0_push_64 ?_
          refine g_iconst C dX0_push_65 ?_
          refine g_idiv C dX0_push_66 (by omega) (by omega) ?_
          show G X _ 67 _ (.int (jI (((p : Int) - 1) / 2)) :: _)
          rw [show ((p : Int) - 1) / 2 = (((p - 1) / 2 : Nat) : Int) by omega]
          refine g_istore_n C dX0_push_67 (Nat.le_of_ble_eq_true rfl) ?_
          show G X _ 68 [_, _, _] _
          refine g_goto (tgt := 28) C dX0_push_68 rfl ?_
          show G X _ 28 _ _
          refine ih ((p - 1) / 2) _ (by omega) (by omega) (hF.trans fun o g1 g2 => zu_o _ _ _ _ g2) (by rw [zu_o _ _ _ _ (by omega)]; exact h2) (fun w => ?_) ?_
          · show cN (va_up (zu N (77 + 2 * r) p (N (77 + 2 * r) ((p - 1) / 2)) (77 + 2 * r)) ((p - 1) / 2) v) (S.length + 1) w = _
            rw [e3, ← hN w, ← hsw w]
          · rw [e3]; exact hJ_step hJ1 (by omega) h1 (by omega)
  refine g_aload_n C dX0_push_0 rfl ?_
  refine gf_Heap_count C (by omega) tw_54 dX0_push_1 ?_
  rw [hS.1]
  refine g_aload_n C dX0_push_4 rfl ?_
  refine gf_Heap_held C (by omega) tw_53 dX0_push_5 ?_
  refine gl_held C (by omega) dX0_push_8 ?_
  refine g_icmp_lt (tgt := 13) C dX0_push_9 rfl (by omega) (by omega) (fun h9 => ?_) (fun h9 => ?_)
  · refine g_aload_n C dX0_push_13 rfl ?_
    refine gf_Heap_count C (by omega) tw_54 dX0_push_14 ?_
    rw [hS.1]
    refine g_istore_n C dX0_push_17 (Nat.le_of_ble_eq_true rfl) ?_
    show G X _ 18 [_, _, _] _
    refine g_aload_n C dX0_push_18 rfl ?_
    refine g_dup C dX0_push_19 rfl ?_
    refine gf_Heap_count C (by omega) tw_54 dX0_push_20 ?_
    rw [hS.1]
    refine g_iconst C dX0_push_23 ?_
    refine g_iadd C dX0_push_24 ?_
    refine gp_Heap_count C (by omega) tw_54 dX0_push_25 ?_
    show G X _ 28 _ _
    refine lp 200 S.length _ (by omega) (Nat.le_refl _) (fun o g1 g2 => zu_o _ _ _ _ g1) (zu_s _ _ _ _) (fun w => ?_) ⟨fun i g1 g2 g3 => ?_, fun g0 i g1 g2 g3 => by omega⟩
    · rw [zu_o _ _ _ _ (by omega), cN, ← hS.2.2.2.2.1 w, cN_congr (B := M (77 + 2 * r)) (fun i hi => by simp [va_up]; omega)]
      simp [va_up]
    · rw [zu_o _ _ _ _ (by omega)]
      have a1 : (i - 1) / 2 ≠ S.length := by omega
      simp only [va_up, if_neg a1, if_neg g3]
      exact hS.2.2.2.2.2 i g1 (by omega)
  · omega
theorem gc_Heap_push {X : z_X} {cc : ByteArray} {own : String} {ret : Option FieldType} {dC nC : Nat} {M : zM} {pc : Nat} {lv : List (Option Value)} {st : List Value} (C : Cx cc own ret dC nC X) (hdep : 2 ≤ dC) {idx : Nat} (hl0 : Cond.methodLink own idx yX0_push ∈ tT) (hcat : (st.map fun v => v.category).sum ≤ 8) (hlen : lv.length = nC) (hdec : decode cc pc = .ok (.invokevirtual idx, 3)) {r : Nat} (hr : r < 3) {S : List Int} (v : Int) (hv : 0 ≤ v ∧ v ≤ 2000000000) (hs : S.length < 120) (hS : zHp M r S) (kk : ∀ M' : zM, (zHp M' r (insS v S) ∧ zFh M M' r) → G X M' (pc + 3) lv st) : G X M pc lv (.int (jI (v)) :: .ref (zA X (76 + 2 * r)) :: st) := by
  refine g_callV (k := 1) (o := 76 + 2 * r) C (c_Heap_push (zL X) hr v hv hs M hS) mfX0_push hl0 ⟨rfl, by decide +kernel, by decide +kernel, by decide +kernel⟩ ⟨hdep, by decide⟩ (by omega) (fun _ _ _ _ => ze_heap (by omega)) rfl rfl rfl rfl hcat hlen hdec (fun v M' h => ?_)
  obtain ⟨rfl, h⟩ := h
  exact kk M' h
set_option maxHeartbeats 4000000 in
set_option maxRecDepth 10000 in
theorem c_Heap_sink (l : Launch) {r : Nat} (hr : r < 3) {S : List Int} (v : Int) (hv : 0 ≤ v ∧ v ≤ 2000000000) (hs : S.length < 120) (M : zM) (h0 : M (76 + 2 * r) 1 = (S.length : Int)) (hb : ∀ w ∈ S, 0 ≤ w ∧ w ≤ 2000000000) (hc : ∀ w, cN (va_up (M (77 + 2 * r)) 0 v) S.length w = S.count w) (ho : hK (va_up (M (77 + 2 * r)) 0 v) S.length 0) : Mt l 1 yX0_sinkFromTop cX0_sinkFromTop 5 none (fun ad => [.ref (ad (76 + 2 * r)), .int (jI (v))]) M (fun _ vv M' => vv = none ∧ (M' (76 + 2 * r) = M (76 + 2 * r) ∧ (∀ w, cN (M' (77 + 2 * r)) S.length w = S.count w) ∧ hord (M' (77 + 2 * r)) S.length ∧ zFh M M' r)) := by
  refine Mt.of (fun ad => [some (.ref (ad (76 + 2 * r))), some (.int (jI (v))), none, none, none]) (by decide +kernel) (fun _ => rfl) (fun _ => rfl) (fun _ => Nat.le_of_ble_eq_true rfl) fun X hX C hR => ?_
  subst hX
  show G X M 0 [some (.ref ((zA X) (76 + 2 * r))), some (.int (jI (v))), none, none, none] []
  have lp : ∀ (fk : Nat) (p : Nat) (N : zM), 200 - p < fk → (p = 0 ∨ p < S.length) → zFh M N r → N (76 + 2 * r) = M (76 + 2 * r) → (∀ w, cN (va_up (N (77 + 2 * r)) p v) S.length w = S.count w) → hK (va_up (N (77 + 2 * r)) p v) S.length p → G X N 4 [some (.ref (zA X (76 + 2 * r))), some (.int (jI v)), some (.int (jI (p : Int))), some (.int (jI ((2 * p + 1 : Nat) : Int))), none] [] := by
    intro fk
    induction fk with
    | zero => intro p N hk; exact absurd hk (Nat.not_lt_zero _)
    | succ fk ih =>
      intro p N hk h1 hF h2 hN hK1
      have zb : ∀ i, i < S.length → 0 ≤ va_up (N (77 + 2 * r)) p v i ∧ va_up (N (77 + 2 * r)) p v i ≤ 2000000000 := fun i hi => by
        have g := cN_pos (A := va_up (N (77 + 2 * r)) p v) hi
        rw [hN] at g
        exact hb _ (List.count_pos_iff.mp g)
      have join : ∀ c : Nat, c < S.length → (c - 1) / 2 = p → 0 < c → (∀ i, 0 < i → i < S.length → (i - 1) / 2 = p → N (77 + 2 * r) c ≤ N (77 + 2 * r) i) → G X N 46 [some (.ref (zA X (76 + 2 * r))), some (.int (jI v)), some (.int (jI (p : Int))), some (.int (jI ((2 * p + 1 : Nat) : Int))), none] [.int (jI (c : Int))] := by
        intro c h5 h6 h7 hm
        refine g_istore C dX0_sinkFromTop_46 (Nat.le_of_ble_eq_true rfl) ?_
        show G X _ 48 [_, _, _, _, _] _
        refine g_aload_n C dX0_sinkFromTop_48 rfl ?_
        refine gf_Heap_held C (by omega) tw_53 dX0_sinkFromTop_49 ?_
        refine g_iload C dX0_sinkFromTop_52 rfl ?_
        
        refine ga_held C (by omega) _ (by omega) rfl dX0_sinkFromTop_54 ?_
        have hcp : c ≠ p := by omega
        have hbc := zb c h5
        have e0 : va_up (N (77 + 2 * r)) p v c = N (77 + 2 * r) c := by simp [va_up, hcp]
        rw [e0] at hbc
        refine g_iload_n C dX0_sinkFromTop_55 rfl ?_
        refine g_icmp_le (tgt := 62) C dX0_sinkFromTop_56 rfl (by omega) (by omega) (fun h56 => ?_) (fun h56 => ?_)
        · have e3 : zu N (77 + 2 * r) p (N (77 + 2 * r) c) (77 + 2 * r) = va_up (N (77 + 2 * r)) p (N (77 + 2 * r) c) := by simp [zu, va_up]
          have hsw : ∀ w, cN (va_up (va_up (N (77 + 2 * r)) p (N (77 + 2 * r) c)) c v) S.length w = cN (va_up (N (77 + 2 * r)) p v) S.length w := fun w => by
            rw [← cN_swap (C := va_up (N (77 + 2 * r)) p v) (p := p) (q := c) (by omega) (by omega) hcp]
            congr 1
            funext j
            simp only [va_up]
            by_cases j1 : j = c <;> by_cases j2 : j = p <;> simp [j1, j2, hcp]
          refine g_aload_n C dX0_sinkFromTop_62 rfl ?_
          refine gf_Heap_held C (by omega) tw_53 dX0_sinkFromTop_63 ?_
          refine g_iload_n C dX0_sinkFromTop_66 rfl ?_
          refine g_aload_n C dX0_sinkFromTop_67 rfl ?_
          refine gf_Heap_held C (by omega) tw_53 dX0_sinkFromTop_68 ?_
          refine g_iload C dX0_sinkFromTop_71 rfl ?_
          show G X _ 73 _ _
          refine ga_held C (by omega) _ (by omega) rfl dX0_sinkFromTop_73 ?_
          refine gs_held C (by omega) _ (by omega) rfl dX0_sinkFromTop_74 ?_
          refine g_iload C dX0_sinkFromTop_75 rfl ?_
          refine g_istore_n C dX0_sinkFromTop_77 (Nat.le_of_ble_eq_true rfl) ?_
          show G X _ 78 [_, _, _, _, _] _
          refine g_iconst C dX0_sinkFromTop_78 ?_
          refine g_iload_n C dX0_sinkFromTop_79 rfl ?_
          refine g_imul C dX0_sinkFromTop_80 ?_
          refine g_iconst C dX0_sinkFromTop_81 ?_
          refine g_iadd C dX0_sinkFromTop_82 ?_
          refine g_istore_n C dX0_sinkFromTop_83 (Nat.le_of_ble_eq_true rfl) ?_
          show G X _ 84 [_, _, _, _, _] _
          refine g_goto (tgt := 4) C dX0_sinkFromTop_84 rfl ?_
          show G X _ 4 _ _
          refine g_mask [true, true, true, true, false] rfl ?_
          show G X _ 4 [_, _, _, _, _] _
          rw [show 2 * (c : Int) + 1 = ((2 * c + 1 : Nat) : Int) by omega]
          refine ih c _ (by omega) (by omega) (hF.trans fun o g1 g2 => zu_o _ _ _ _ g2) (by rw [zu_o _ _ _ _ (by omega)]; exact h2) (fun w => ?_) ?_
          · rw [e3, hsw w]; exact hN w
          · rw [e3]; exact hK_step hK1 (by omega) h5 (by omega) (by omega) hm
        · refine g_goto (tgt := 87) C dX0_sinkFromTop_59 rfl ?_
          show G X _ 87 _ _
          refine g_aload_n C dX0_sinkFromTop_87 rfl ?_
          refine gf_Heap_held C (by omega) tw_53 dX0_sinkFromTop_88 ?_
          refine g_iload_n C dX0_sinkFromTop_91 rfl ?_
          refine g_iload_n C dX0_sinkFromTop_92 rfl ?_
          refine gs_held C (by omega) _ (by omega) rfl dX0_sinkFromTop_93 ?_
          refine g_vret C hR dX0_sinkFromTop_94 ?_
          have e4 : zu N (77 + 2 * r) p v (77 + 2 * r) = va_up (N (77 + 2 * r)) p v := by simp [zu, va_up]
          refine ⟨rfl, (zu_o _ _ _ _ (by omega)).trans h2, fun w => by rw [e4]; exact hN w, ?_, hF.trans fun o g1 g2 => zu_o _ _ _ _ g2⟩
          rw [e4]
          have e5 : va_up (N (77 + 2 * r)) p v p = v := by simp [va_up]
          refine hK_end hK1 fun i g1 g2 g3 => ?_
          have e8 : i ≠ p := by omega
          have e6 : va_up (N (77 + 2 * r)) p v i = N (77 + 2 * r) i := by simp [va_up, e8]
          have e7 := hm i g1 g2 g3
          rw [e5, e6]; omega
      refine g_iload_n C dX0_sinkFromTop_4 rfl ?_
      refine g_aload_n C dX0_sinkFromTop_5 rfl ?_
      refine gf_Heap_count C (by omega) tw_54 dX0_sinkFromTop_6 ?_
      rw [h2, h0]
      refine g_icmp_ge (tgt := 87) C dX0_sinkFromTop_9 rfl (by omega) (by omega) (fun h9 => ?_) (fun h9 => ?_)
      · refine g_aload_n C dX0_sinkFromTop_87 rfl ?_
        refine gf_Heap_held C (by omega) tw_53 dX0_sinkFromTop_88 ?_
        refine g_iload_n C dX0_sinkFromTop_91 rfl ?_
        refine g_iload_n C dX0_sinkFromTop_92 rfl ?_
        refine gs_held C (by omega) _ (by omega) rfl dX0_sinkFromTop_93 ?_
        refine g_vret C hR dX0_sinkFromTop_94 ?_
        have e4 : zu N (77 + 2 * r) p v (77 + 2 * r) = va_up (N (77 + 2 * r)) p v := by simp [zu, va_up]
        refine ⟨rfl, (zu_o _ _ _ _ (by omega)).trans h2, fun w => by rw [e4]; exact hN w, ?_, hF.trans fun o g1 g2 => zu_o _ _ _ _ g2⟩
        rw [e4]
        have e5 : va_up (N (77 + 2 * r)) p v p = v := by simp [va_up]
        refine hK_end hK1 fun i g1 g2 g3 => ?_
        omega
      · refine g_iload_n C dX0_sinkFromTop_12 rfl ?_
        refine g_iconst C dX0_sinkFromTop_13 ?_
        refine g_iadd C dX0_sinkFromTop_14 ?_
        refine g_aload_n C dX0_sinkFromTop_15 rfl ?_
        refine gf_Heap_count C (by omega) tw_54 dX0_sinkFromTop_16 ?_
        rw [h2, h0]
        refine g_icmp_ge (tgt := 45) C dX0_sinkFromTop_19 rfl (by omega) (by omega) (fun h19 => ?_) (fun h19 => ?_)
        · refine g_iload_n C dX0_sinkFromTop_45 rfl ?_
          exact join (2 * p + 1) (by omega) (by omega) (by omega) (fun i g1 g2 g3 => by
            obtain rfl : i = 2 * p + 1 := by omega
            exact Int.le_refl _)
        · refine g_aload_n C dX0_sinkFromTop_22 rfl ?_
          refine gf_Heap_held C (by omega) tw_53 dX0_sinkFromTop_23 ?_
          refine g_iload_n C dX0_sinkFromTop_26 rfl ?_
          refine g_iconst C dX0_sinkFromTop_27 ?_
          refine g_iadd C dX0_sinkFromTop_28 ?_
          refine ga_held C (by omega) (2 * p + 2) (by omega) (by omega) dX0_sinkFromTop_29 ?_
          show G X _ 30 _ _
          refine g_aload_n C dX0_sinkFromTop_30 rfl ?_
          refine gf_Heap_held C (by omega) tw_53 dX0_sinkFromTop_31 ?_
          refine g_iload_n C dX0_sinkFromTop_34 rfl ?_
          refine ga_held C (by omega) (2 * p + 1) (by omega) rfl dX0_sinkFromTop_35 ?_
          have b1 := zb (2 * p + 1) (by omega)
          have b2 := zb (2 * p + 2) (by omega)
          have n1 : 2 * p + 1 ≠ p := by omega
          have n2 : 2 * p + 2 ≠ p := by omega
          rw [show va_up (N (77 + 2 * r)) p v (2 * p + 1) = N (77 + 2 * r) (2 * p + 1) by simp [va_up, n1]] at b1
          rw [show va_up (N (77 + 2 * r)) p v (2 * p + 2) = N (77 + 2 * r) (2 * p + 2) by simp [va_up, n2]] at b2
          refine g_icmp_ge (tgt := 45) C dX0_sinkFromTop_36 rfl (by omega) (by omega) (fun h36 => ?_) (fun h36 => ?_)
          · refine g_iload_n C dX0_sinkFromTop_45 rfl ?_
            exact join (2 * p + 1) (by omega) (by omega) (by omega) (fun i g1 g2 g3 => by
              rcases (show i = 2 * p + 1 ∨ i = 2 * p + 2 by omega) with rfl | rfl
              · exact Int.le_refl _
              · omega)
          · refine g_iload_n C dX0_sinkFromTop_39 rfl ?_
            refine g_iconst C dX0_sinkFromTop_40 ?_
            refine g_iadd C dX0_sinkFromTop_41 ?_
            refine g_goto (tgt := 46) C dX0_sinkFromTop_42 rfl ?_
            show G X _ 46 _ _
            rw [show ((2 * p + 1 : Nat) : Int) + 1 = ((2 * p + 2 : Nat) : Int) by omega]
            exact join (2 * p + 2) (by omega) (by omega) (by omega) (fun i g1 g2 g3 => by
              rcases (show i = 2 * p + 1 ∨ i = 2 * p + 2 by omega) with rfl | rfl
              · omega
              · exact Int.le_refl _)
  refine g_iconst C dX0_sinkFromTop_0 ?_
  refine g_istore_n C dX0_sinkFromTop_1 (Nat.le_of_ble_eq_true rfl) ?_
  show G X _ 2 [_, _, _, _, _] _
  refine g_iconst C dX0_sinkFromTop_2 ?_
  refine g_istore_n C dX0_sinkFromTop_3 (Nat.le_of_ble_eq_true rfl) ?_
  show G X _ 4 [_, _, _, _, _] _
  exact lp 300 0 M (by omega) (Or.inl rfl) zFh.refl rfl hc ho
theorem gc_Heap_sink {X : z_X} {cc : ByteArray} {own : String} {ret : Option FieldType} {dC nC : Nat} {M : zM} {pc : Nat} {lv : List (Option Value)} {st : List Value} (C : Cx cc own ret dC nC X) (hdep : 2 ≤ dC) {idx : Nat} (hl0 : Cond.methodLink own idx yX0_sinkFromTop ∈ tT) (hcat : (st.map fun v => v.category).sum ≤ 8) (hlen : lv.length = nC) (hdec : decode cc pc = .ok (.invokevirtual idx, 3)) {r : Nat} (hr : r < 3) {S : List Int} (v : Int) (hv : 0 ≤ v ∧ v ≤ 2000000000) (hs : S.length < 120) (h0 : M (76 + 2 * r) 1 = (S.length : Int)) (hb : ∀ w ∈ S, 0 ≤ w ∧ w ≤ 2000000000) (hc : ∀ w, cN (va_up (M (77 + 2 * r)) 0 v) S.length w = S.count w) (ho : hK (va_up (M (77 + 2 * r)) 0 v) S.length 0) (kk : ∀ M' : zM, (M' (76 + 2 * r) = M (76 + 2 * r) ∧ (∀ w, cN (M' (77 + 2 * r)) S.length w = S.count w) ∧ hord (M' (77 + 2 * r)) S.length ∧ zFh M M' r) → G X M' (pc + 3) lv st) : G X M pc lv (.int (jI (v)) :: .ref (zA X (76 + 2 * r)) :: st) := by
  refine g_callV (k := 1) (o := 76 + 2 * r) C (c_Heap_sink (zL X) hr v hv hs M h0 hb hc ho) mfX0_sinkFromTop hl0 ⟨rfl, by decide +kernel, by decide +kernel, by decide +kernel⟩ ⟨hdep, by decide⟩ (by omega) (fun _ _ _ _ => ze_heap (by omega)) rfl rfl rfl rfl hcat hlen hdec (fun v M' h => ?_)
  obtain ⟨rfl, h⟩ := h
  exact kk M' h
set_option maxHeartbeats 4000000 in
set_option maxRecDepth 10000 in
theorem c_Heap_pull (l : Launch) {r : Nat} (hr : r < 3) {a : Int} {S : List Int} (M : zM) (hS : zHp M r (a :: S)) : Mt l 2 yX0_pull cX0_pull 2 (some .int) (fun ad => [.ref (ad (76 + 2 * r))]) M (fun _ vv M' => ∃ x : Int, vv = some (.int (jI x)) ∧ (x = a ∧ zHp M' r S ∧ zFh M M' r)) := by
  refine Mt.of (fun ad => [some (.ref (ad (76 + 2 * r))), none]) (by decide +kernel) (fun _ => rfl) (fun _ => rfl) (fun _ => Nat.le_of_ble_eq_true rfl) fun X hX C hR => ?_
  subst hX
  show G X M 0 [some (.ref ((zA X) (76 + 2 * r))), none] []
  have ht := hS.top
  obtain ⟨h0, h1, h2, h3, h4, h5⟩ := id hS
  rw [List.length_cons] at h0 h1 h4 h5
  obtain ⟨h6, h7⟩ := List.pairwise_cons.mp h2
  have hlast : 0 ≤ M (77 + 2 * r) S.length ∧ M (77 + 2 * r) S.length ≤ 2000000000 := by
    have g := cN_pos (A := M (77 + 2 * r)) (i := S.length) (n := S.length + 1) (by omega)
    rw [h4] at g
    exact h3 _ (List.count_pos_iff.mp g)
  have hcnt : ∀ w, cN (va_up (M (77 + 2 * r)) 0 (M (77 + 2 * r) S.length)) S.length w = S.count w := fun w => by
    have g1 := h4 w
    rw [cN, cnt_cons] at g1
    rcases Nat.eq_zero_or_pos S.length with z | z
    · rw [z, cN]
      rw [List.length_eq_zero_iff.mp z]; rfl
    · have g2 := cN_up (A := M (77 + 2 * r)) (x := M (77 + 2 * r) S.length) (w := w) z
      rw [ht] at g2
      omega
  have hK0 : hK (va_up (M (77 + 2 * r)) 0 (M (77 + 2 * r) S.length)) S.length 0 := by
    refine ⟨fun i g1 g2 g3 => ?_, fun g0 => absurd g0 (Nat.lt_irrefl 0)⟩
    have g4 : i ≠ 0 := by omega
    simp only [va_up, if_neg g3, if_neg g4]
    exact h5 i g1 (by omega)
  refine g_aload_n C dX0_pull_0 rfl ?_
  refine gf_Heap_count C (by omega) tw_54 dX0_pull_1 ?_
  rw [h0]
  refine g_iconst C dX0_pull_4 ?_
  refine g_icmp_ge (tgt := 10) C dX0_pull_5 rfl (by omega) (by omega) (fun h5 => ?_) (fun h5 => ?_)
  · refine g_aload_n C dX0_pull_10 rfl ?_
    refine gf_Heap_held C (by omega) tw_53 dX0_pull_11 ?_
    refine g_iconst C dX0_pull_14 ?_
    refine ga_held C (by omega) 0 (by omega) rfl dX0_pull_15 ?_
    rw [ht]
    refine g_istore_n C dX0_pull_16 (Nat.le_of_ble_eq_true rfl) ?_
    show G X _ 17 [_, _] _
    refine g_aload_n C dX0_pull_17 rfl ?_
    refine g_dup C dX0_pull_18 rfl ?_
    refine gf_Heap_count C (by omega) tw_54 dX0_pull_19 ?_
    rw [h0]
    refine g_iconst C dX0_pull_22 ?_
    refine g_isub C dX0_pull_23 ?_
    rw [show ((S.length + 1 : Nat) : Int) - 1 = (S.length : Int) by omega]
    refine gp_Heap_count C (by omega) tw_54 dX0_pull_24 ?_
    show G X _ 27 _ _
    refine g_aload_n C dX0_pull_27 rfl ?_
    refine g_aload_n C dX0_pull_28 rfl ?_
    refine gf_Heap_held C (by omega) tw_53 dX0_pull_29 ?_
    refine g_aload_n C dX0_pull_32 rfl ?_
    refine gf_Heap_count C (by omega) tw_54 dX0_pull_33 ?_
    rw [zu_s]
    refine ga_held C (by omega) _ (by omega) rfl dX0_pull_36 ?_
    rw [zu_o _ _ _ _ (by omega)]
    show G X _ 37 _ _
    refine gc_Heap_sink C (by decide) tw_519 (Nat.le_of_ble_eq_true rfl) rfl dX0_pull_37 hr _ hlast (by omega) (zu_s _ _ _ _) (fun w hw => h3 w (List.mem_cons_of_mem _ hw)) (by rw [zu_o _ _ _ _ (by omega)]; exact hcnt) (by rw [zu_o _ _ _ _ (by omega)]; exact hK0) (fun N ⟨n1, n2, n3, n4⟩ => ?_)
    refine g_iload_n C dX0_pull_40 rfl ?_
    refine g_iret C hR dX0_pull_41 ?_
    refine ⟨_, rfl, rfl, ⟨by rw [n1, zu_s], by omega, h7, fun w hw => h3 w (List.mem_cons_of_mem _ hw), n2, n3⟩, fun o g1 g2 => (n4 o g1 g2).trans (zu_o _ _ _ _ g1)⟩
  · omega
theorem gc_Heap_pull {X : z_X} {cc : ByteArray} {own : String} {ret : Option FieldType} {dC nC : Nat} {M : zM} {pc : Nat} {lv : List (Option Value)} {st : List Value} (C : Cx cc own ret dC nC X) (hdep : 3 ≤ dC) {idx : Nat} (hl0 : Cond.methodLink own idx yX0_pull ∈ tT) (hcat : (st.map fun v => v.category).sum ≤ 8) (hlen : lv.length = nC) (hdec : decode cc pc = .ok (.invokevirtual idx, 3)) {r : Nat} (hr : r < 3) {a : Int} {S : List Int} (hS : zHp M r (a :: S)) (kk : ∀ (x : Int) (M' : zM), (x = a ∧ zHp M' r S ∧ zFh M M' r) → G X M' (pc + 3) lv (.int (jI x) :: st)) : G X M pc lv (.ref (zA X (76 + 2 * r)) :: st) := by
  refine g_callV (k := 0) (o := 76 + 2 * r) C (c_Heap_pull (zL X) hr M hS) mfX0_pull hl0 ⟨rfl, by decide +kernel, by decide +kernel, by decide +kernel⟩ ⟨hdep, by decide⟩ (by omega) (fun _ _ _ _ => ze_heap (by omega)) rfl rfl rfl rfl hcat hlen hdec (fun v M' h => ?_)
  obtain ⟨x, rfl, h⟩ := h
  exact kk x M' h
