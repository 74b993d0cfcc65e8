/-! the law's own methods -/
set_option maxHeartbeats 4000000 in
set_option maxRecDepth 10000 in
theorem c_L_below (l : Launch) (v : Int32) (n : Nat) (hn : 1 ≤ n ∧ n ≤ 1000) (M : zM)  : Mt l 1 yL_below cL_below 2 (some .int) (fun ad => [.int (v), .int (jI ((n : Int)))]) M (fun _ vv M' => ∃ x : Int, vv = some (.int (jI x)) ∧ ((0 ≤ x ∧ x < (n : Int)) ∧ M' = M)) := by
  refine Mt.of (fun ad => [some (.int (v)), some (.int (jI ((n : Int))))]) (by decide +kernel) (fun _ => rfl) (fun _ => rfl) (fun _ => Nat.le_of_ble_eq_true rfl) fun X hX C hR => ?_
  subst hX
  show G X M 0 [some (.int (v)), some (.int (jI ((n : Int))))] []
  refine g_iload_n C dL_below_0 rfl ?_
  refine g_ldc C tw_846 dL_below_1 ?_
  show G X _ _ _ (.int (jI 2147483647) :: _)
  refine g_iand C dL_below_3 ?_
  obtain ⟨u, hu, hu1, hu2⟩ := jI_land (v := v)
  rw [show (v &&& jI 2147483647) = jI u from hu]
  refine g_iload_n C dL_below_4 rfl ?_
  refine g_irem C dL_below_5 (by omega) (by omega) ?_
  refine g_iret C hR dL_below_6 ?_
  exact ⟨_, rfl, ⟨Int.emod_nonneg _ (by omega), Int.emod_lt_of_pos _ (by omega)⟩, rfl⟩
theorem gc_L_below {X : z_X} {cc : ByteArray} {own : String} {ret : Option FieldType} {dC nC : Nat} {M : zM} {pc : Nat} {lv : List (Option Value)} {st : List Value} (C : Cx cc own ret dC nC X) (hdep : 2 ≤ dC) {idx : Nat} (hl0 : Cond.methodLink own idx yL_below ∈ tT) (hcat : (st.map fun v => v.category).sum ≤ 8) (hlen : lv.length = nC) (hdec : decode cc pc = .ok (.invokestatic idx, 3)) (v : Int32) (n : Nat) (hn : 1 ≤ n ∧ n ≤ 1000)  (kk : ∀ (x : Int) (M' : zM), ((0 ≤ x ∧ x < (n : Int)) ∧ M' = M) → G X M' (pc + 3) lv (.int (jI x) :: st)) : G X M pc lv (.int (jI ((n : Int))) :: .int (v) :: st) := by
  refine g_callS (k := 2) C (c_L_below (zL X) v n hn M ) mfL_below hl0 ⟨rfl, by decide +kernel, by decide +kernel, by decide +kernel⟩ ⟨hdep, by decide⟩ rfl rfl rfl hcat hlen hdec (fun v M' h => ?_)
  obtain ⟨x, rfl, h⟩ := h
  exact kk x M' h
set_option maxHeartbeats 4000000 in
set_option maxRecDepth 10000 in
theorem c_L_isSame (l : Launch) {c : Nat} (f g : Nat) (hf : f < c) (hg : g < c) (hc : c ≤ 12) {L : List (Int × Int)} (hb : zIn L) (M : zM) (hM : M 95 1 = (c : Int)) (hL : zRow M f L) (hL2 : zRow M g L) : Mt l 4 yL_isSame cL_isSame 4 (some .boolean) (fun ad => [.ref (ad (95)), .int (jI ((f : Int))), .int (jI ((g : Int)))]) M (fun _ vv M' => vv = some (.int (jI (1))) ∧ M' = M) := by
  refine Mt.of (fun ad => [some (.ref (ad (95))), some (.int (jI ((f : Int)))), some (.int (jI ((g : Int)))), none]) (by decide +kernel) (fun _ => rfl) (fun _ => rfl) (fun _ => Nat.le_of_ble_eq_true rfl) fun X hX C hR => ?_
  subst hX
  show G X M 0 [some (.ref ((zA X) (95))), some (.int (jI ((f : Int)))), some (.int (jI ((g : Int)))), none] []
  have h120 := hL.2.1
  have lp : ∀ (fk : Nat) (i : Nat), 200 - i < fk → i ≤ L.length → G X M 17 [some (.ref (zA X 95)), some (.int (jI (f : Int))), some (.int (jI (g : Int))), some (.int (jI (i : Int)))] [] := by
    intro fk
    induction fk with
    | zero => intro i hk; exact absurd hk (Nat.not_lt_zero _)
    | succ fk ih =>
      intro i hk i1
      have h120 := hL.2.1
      refine g_iload_n C dL_isSame_17 rfl ?_
      refine g_aload_n C dL_isSame_18 rfl ?_
      refine g_iload_n C dL_isSame_19 rfl ?_
      refine gc_size C (by decide) tw_414 (Nat.le_of_ble_eq_true rfl) rfl dL_isSame_20 f hf hc hM hL (?_)
      refine g_icmp_ge (tgt := 68) C dL_isSame_23 rfl (by omega) (by omega) (fun h23 => ?_) (fun h23 => ?_)
      · refine g_iconst C dL_isSame_68 ?_
        refine g_zret C hR (by omega) dL_isSame_69 ?_
        exact ⟨rfl, rfl⟩
      · refine g_aload_n C dL_isSame_26 rfl ?_
        refine g_iload_n C dL_isSame_27 rfl ?_
        refine g_iload_n C dL_isSame_28 rfl ?_
        refine g_iconst C dL_isSame_29 ?_
        refine gc_at C (by decide) tw_418 (Nat.le_of_ble_eq_true rfl) rfl dL_isSame_30 f hf hc i false (by omega) hM hL (?_)
        refine g_aload_n C dL_isSame_33 rfl ?_
        show G X _ 34 _ _
        refine g_iload_n C dL_isSame_34 rfl ?_
        refine g_iload_n C dL_isSame_35 rfl ?_
        refine g_iconst C dL_isSame_36 ?_
        refine gc_at C (by decide) tw_418 (Nat.le_of_ble_eq_true rfl) rfl dL_isSame_37 g hg hc i false (by omega) hM hL2 (?_)
        have bi := hb.at i
        rw [if_neg (by decide)]
        refine g_icmp_ne (tgt := 60) C dL_isSame_40 rfl (by omega) (by omega) (fun h40 => ?_) (fun h40 => ?_)
        · omega
        · refine g_aload_n C dL_isSame_43 rfl ?_
          refine g_iload_n C dL_isSame_44 rfl ?_
          refine g_iload_n C dL_isSame_45 rfl ?_
          refine g_iconst C dL_isSame_46 ?_
          refine gc_at C (by decide) tw_418 (Nat.le_of_ble_eq_true rfl) rfl dL_isSame_47 f hf hc i true (by omega) hM hL (?_)
          refine g_aload_n C dL_isSame_50 rfl ?_
          show G X _ 51 _ _
          refine g_iload_n C dL_isSame_51 rfl ?_
          refine g_iload_n C dL_isSame_52 rfl ?_
          refine g_iconst C dL_isSame_53 ?_
          refine gc_at C (by decide) tw_418 (Nat.le_of_ble_eq_true rfl) rfl dL_isSame_54 g hg hc i true (by omega) hM hL2 (?_)
          rw [if_pos rfl]
          refine g_icmp_eq (tgt := 62) C dL_isSame_57 rfl (by omega) (by omega) (fun h57 => ?_) (fun h57 => ?_)
          · refine g_iinc C dL_isSame_62 rfl ?_
            show G X _ 65 [_, _, _, _] _
            refine g_goto (tgt := 17) C dL_isSame_65 rfl ?_
            show G X _ 17 _ _
            exact ih (i + 1) (by omega) (by omega)
          · omega
  refine g_aload_n C dL_isSame_0 rfl ?_
  refine g_iload_n C dL_isSame_1 rfl ?_
  refine gc_size C (by decide) tw_414 (Nat.le_of_ble_eq_true rfl) rfl dL_isSame_2 f hf hc hM hL (?_)
  refine g_aload_n C dL_isSame_5 rfl ?_
  refine g_iload_n C dL_isSame_6 rfl ?_
  refine gc_size C (by decide) tw_414 (Nat.le_of_ble_eq_true rfl) rfl dL_isSame_7 g hg hc hM hL2 (?_)
  show G X _ 10 _ _
  refine g_icmp_eq (tgt := 15) C dL_isSame_10 rfl (by omega) (by omega) (fun h10 => ?_) (fun h10 => ?_)
  · refine g_iconst C dL_isSame_15 ?_
    refine g_istore_n C dL_isSame_16 (Nat.le_of_ble_eq_true rfl) ?_
    show G X _ 17 [_, _, _, _] _
    exact lp 300 0 (by omega) (by omega)
  · omega
theorem gc_L_isSame {X : z_X} {cc : ByteArray} {own : String} {ret : Option FieldType} {dC nC : Nat} {M : zM} {pc : Nat} {lv : List (Option Value)} {st : List Value} (C : Cx cc own ret dC nC X) (hdep : 5 ≤ dC) {idx : Nat} (hl0 : Cond.methodLink own idx yL_isSame ∈ tT) (hcat : (st.map fun v => v.category).sum ≤ 8) (hlen : lv.length = nC) (hdec : decode cc pc = .ok (.invokestatic idx, 3)) {c : Nat} (f g : Nat) (hf : f < c) (hg : g < c) (hc : c ≤ 12) {L : List (Int × Int)} (hb : zIn L) (hM : M 95 1 = (c : Int)) (hL : zRow M f L) (hL2 : zRow M g L) (kk : G X M (pc + 3) lv (.int (jI (1)) :: st)) : G X M pc lv (.int (jI ((g : Int))) :: .int (jI ((f : Int))) :: .ref (zA X (95)) :: st) := by
  refine g_callS (k := 3) C (c_L_isSame (zL X) f g hf hg hc hb M hM hL hL2) mfL_isSame hl0 ⟨rfl, by decide +kernel, by decide +kernel, by decide +kernel⟩ ⟨hdep, by decide⟩ rfl rfl rfl hcat hlen hdec (fun v M' h => ?_)
  obtain ⟨rfl, rfl⟩ := h
  exact kk
