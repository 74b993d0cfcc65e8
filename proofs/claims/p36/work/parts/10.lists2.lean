/-! more methods of a row, of a list, small static ones -/
set_option maxHeartbeats 4000000 in
set_option maxRecDepth 10000 in
theorem c_Row_isUp (l : Launch) {r : Nat} (hr : r < 20) {L : List (Int × Int)} (M : zM) (hL : zRow M r L) (hb : zIn L) : Mt l 1 yX5_isUp cX5_isUp 2 (some .boolean) (fun ad => [.ref (ad (3 * r))]) M (fun _ vv M' => vv = some (.int (jI (if upB L = true then 1 else 0))) ∧ M' = M) := by
  refine Mt.of (fun ad => [some (.ref (ad (3 * r))), none]) (by decide +kernel) (fun _ => rfl) (fun _ => rfl) (fun _ => Nat.le_of_ble_eq_true rfl) fun X hX C hR => ?_
  subst hX
  show G X M 0 [some (.ref ((zA X) (3 * r))), none] []
  obtain ⟨hc, hc2, hc3⟩ := id hL
  have hc : M (3 * r) 2 = _ := hc
  have lp : ∀ (fk : Nat) (q : Nat), 120 - q < fk → q ≤ 120 → (∀ j, j < q → kA L j ≤ kA L (j + 1)) → G X M 2 [some (.ref (zA X (3 * r))), some (.int (jI ((q + 1 : Nat) : Int)))] [] := by
    intro fk
    induction fk with
    | zero => intro q hk; exact absurd hk (Nat.not_lt_zero _)
    | succ fk ih =>
      intro q hk hq0 hq
      refine g_iload_n C dX5_isUp_2 rfl ?_
      refine g_aload_n C dX5_isUp_3 rfl ?_
      refine gf_Row_count C (by omega) tw_147 dX5_isUp_4 ?_
      refine g_icmp_ge (tgt := 35) C dX5_isUp_7 rfl (by omega) (by omega) (fun h7 => ?_) (fun h7 => ?_)
      · refine g_iconst C dX5_isUp_35 ?_
        refine g_zret C hR (by omega) dX5_isUp_36 ?_
        refine ⟨?_, rfl⟩
        rw [if_pos ((upB_iff L).mpr fun j hj => hq j (by omega))]
      · refine g_aload_n C dX5_isUp_10 rfl ?_
        refine gf_Row_keys C (by omega) tw_145 dX5_isUp_11 ?_
        refine g_iload_n C dX5_isUp_14 rfl ?_
        refine ga_keys C (by omega) _ (by omega) rfl dX5_isUp_15 ?_
        rw [(hc3 (q + 1) (by omega)).1]
        refine g_aload_n C dX5_isUp_16 rfl ?_
        refine gf_Row_keys C (by omega) tw_145 dX5_isUp_17 ?_
        show G X _ 20 _ _
        refine g_iload_n C dX5_isUp_20 rfl ?_
        refine g_iconst C dX5_isUp_21 ?_
        refine g_isub C dX5_isUp_22 ?_
        refine ga_keys C (by omega) q (by omega) (by omega) dX5_isUp_23 ?_
        rw [(hc3 q (by omega)).1]
        have b1 := hb.at q
        have b2 := hb.at (q + 1)
        refine g_icmp_ge (tgt := 29) C dX5_isUp_24 rfl (by omega) (by omega) (fun h24 => ?_) (fun h24 => ?_)
        · refine g_iinc C dX5_isUp_29 rfl ?_
          show G X _ 32 [_, _] _
          refine g_goto (tgt := 2) C dX5_isUp_32 rfl ?_
          show G X _ 2 _ _
          exact ih (q + 1) (by omega) (by omega) (fun j hj => by
            rcases Nat.lt_or_ge j q with z | z
            · exact hq j z
            · obtain rfl : j = q := by omega
              omega)
        · refine g_iconst C dX5_isUp_27 ?_
          refine g_zret C hR (by omega) dX5_isUp_28 ?_
          refine ⟨?_, rfl⟩
          rw [if_neg (fun h => absurd ((upB_iff L).mp h q (by omega)) (by omega))]
  refine g_iconst C dX5_isUp_0 ?_
  refine g_istore_n C dX5_isUp_1 (Nat.le_of_ble_eq_true rfl) ?_
  show G X _ 2 [_, _] _
  exact lp 200 0 (by omega) (by omega) (fun j hj => absurd hj (Nat.not_lt_zero _))
theorem gc_Row_isUp {X : z_X} {cc : ByteArray} {own : String} {ret : Option FieldType} {dC nC : Nat} {M : zM} {pc : Nat} {lv : List (Option Value)} {st : List Value} (C : Cx cc own ret dC nC X) (hdep : 2 ≤ dC) {idx : Nat} (hl0 : Cond.methodLink own idx yX5_isUp ∈ tT) (hcat : (st.map fun v => v.category).sum ≤ 8) (hlen : lv.length = nC) (hdec : decode cc pc = .ok (.invokevirtual idx, 3)) {r : Nat} (hr : r < 20) {L : List (Int × Int)} (hL : zRow M r L) (hb : zIn L) (kk : G X M (pc + 3) lv (.int (jI (if upB L = true then 1 else 0)) :: st)) : G X M pc lv (.ref (zA X (3 * r)) :: st) := by
  refine g_callV (k := 0) (o := 3 * r) C (c_Row_isUp (zL X) hr M hL hb) mfX5_isUp hl0 ⟨rfl, by decide +kernel, by decide +kernel, by decide +kernel⟩ ⟨hdep, by decide⟩ (by omega) (fun _ _ _ _ => ze_row (by omega)) rfl rfl rfl rfl hcat hlen hdec (fun v M' h => ?_)
  obtain ⟨rfl, rfl⟩ := h
  exact kk
set_option maxHeartbeats 4000000 in
set_option maxRecDepth 10000 in
theorem c_Row_isDown (l : Launch) {r : Nat} (hr : r < 20) {L : List (Int × Int)} (M : zM) (hL : zRow M r L) (hb : zIn L) : Mt l 1 yX5_isDown cX5_isDown 2 (some .boolean) (fun ad => [.ref (ad (3 * r))]) M (fun _ vv M' => vv = some (.int (jI (if dnB L = true then 1 else 0))) ∧ M' = M) := by
  refine Mt.of (fun ad => [some (.ref (ad (3 * r))), none]) (by decide +kernel) (fun _ => rfl) (fun _ => rfl) (fun _ => Nat.le_of_ble_eq_true rfl) fun X hX C hR => ?_
  subst hX
  show G X M 0 [some (.ref ((zA X) (3 * r))), none] []
  obtain ⟨hc, hc2, hc3⟩ := id hL
  have hc : M (3 * r) 2 = _ := hc
  have lp : ∀ (fk : Nat) (q : Nat), 120 - q < fk → q ≤ 120 → (∀ j, j < q → kA L (j + 1) ≤ kA L j) → G X M 2 [some (.ref (zA X (3 * r))), some (.int (jI ((q + 1 : Nat) : Int)))] [] := by
    intro fk
    induction fk with
    | zero => intro q hk; exact absurd hk (Nat.not_lt_zero _)
    | succ fk ih =>
      intro q hk hq0 hq
      refine g_iload_n C dX5_isDown_2 rfl ?_
      refine g_aload_n C dX5_isDown_3 rfl ?_
      refine gf_Row_count C (by omega) tw_147 dX5_isDown_4 ?_
      refine g_icmp_ge (tgt := 35) C dX5_isDown_7 rfl (by omega) (by omega) (fun h7 => ?_) (fun h7 => ?_)
      · refine g_iconst C dX5_isDown_35 ?_
        refine g_zret C hR (by omega) dX5_isDown_36 ?_
        refine ⟨?_, rfl⟩
        rw [if_pos ((dnB_iff L).mpr fun j hj => hq j (by omega))]
      · refine g_aload_n C dX5_isDown_10 rfl ?_
        refine gf_Row_keys C (by omega) tw_145 dX5_isDown_11 ?_
        refine g_iload_n C dX5_isDown_14 rfl ?_
        refine ga_keys C (by omega) _ (by omega) rfl dX5_isDown_15 ?_
        rw [(hc3 (q + 1) (by omega)).1]
        refine g_aload_n C dX5_isDown_16 rfl ?_
        refine gf_Row_keys C (by omega) tw_145 dX5_isDown_17 ?_
        show G X _ 20 _ _
        refine g_iload_n C dX5_isDown_20 rfl ?_
        refine g_iconst C dX5_isDown_21 ?_
        refine g_isub C dX5_isDown_22 ?_
        refine ga_keys C (by omega) q (by omega) (by omega) dX5_isDown_23 ?_
        rw [(hc3 q (by omega)).1]
        have b1 := hb.at q
        have b2 := hb.at (q + 1)
        refine g_icmp_le (tgt := 29) C dX5_isDown_24 rfl (by omega) (by omega) (fun h24 => ?_) (fun h24 => ?_)
        · refine g_iinc C dX5_isDown_29 rfl ?_
          show G X _ 32 [_, _] _
          refine g_goto (tgt := 2) C dX5_isDown_32 rfl ?_
          show G X _ 2 _ _
          exact ih (q + 1) (by omega) (by omega) (fun j hj => by
            rcases Nat.lt_or_ge j q with z | z
            · exact hq j z
            · obtain rfl : j = q := by omega
              omega)
        · refine g_iconst C dX5_isDown_27 ?_
          refine g_zret C hR (by omega) dX5_isDown_28 ?_
          refine ⟨?_, rfl⟩
          rw [if_neg (fun h => absurd ((dnB_iff L).mp h q (by omega)) (by omega))]
  refine g_iconst C dX5_isDown_0 ?_
  refine g_istore_n C dX5_isDown_1 (Nat.le_of_ble_eq_true rfl) ?_
  show G X _ 2 [_, _] _
  exact lp 200 0 (by omega) (by omega) (fun j hj => absurd hj (Nat.not_lt_zero _))
theorem gc_Row_isDown {X : z_X} {cc : ByteArray} {own : String} {ret : Option FieldType} {dC nC : Nat} {M : zM} {pc : Nat} {lv : List (Option Value)} {st : List Value} (C : Cx cc own ret dC nC X) (hdep : 2 ≤ dC) {idx : Nat} (hl0 : Cond.methodLink own idx yX5_isDown ∈ tT) (hcat : (st.map fun v => v.category).sum ≤ 8) (hlen : lv.length = nC) (hdec : decode cc pc = .ok (.invokevirtual idx, 3)) {r : Nat} (hr : r < 20) {L : List (Int × Int)} (hL : zRow M r L) (hb : zIn L) (kk : G X M (pc + 3) lv (.int (jI (if dnB L = true then 1 else 0)) :: st)) : G X M pc lv (.ref (zA X (3 * r)) :: st) := by
  refine g_callV (k := 0) (o := 3 * r) C (c_Row_isDown (zL X) hr M hL hb) mfX5_isDown hl0 ⟨rfl, by decide +kernel, by decide +kernel, by decide +kernel⟩ ⟨hdep, by decide⟩ (by omega) (fun _ _ _ _ => ze_row (by omega)) rfl rfl rfl rfl hcat hlen hdec (fun v M' h => ?_)
  obtain ⟨rfl, rfl⟩ := h
  exact kk
set_option maxHeartbeats 4000000 in
set_option maxRecDepth 10000 in
theorem c_Row_addAll (l : Launch) {r q : Nat} (hr : r < 20) (hq : q < 20) (hqr : q ≠ r) {L : List (Int × Int)} (M : zM) (hL : zRow M q L) (h0 : zRow M r []) : Mt l 2 yX5_addAll cX5_addAll 3 none (fun ad => [.ref (ad (3 * r)), .ref (ad (3 * q))]) M (fun _ vv M' => vv = none ∧ (zRow M' r L ∧ zFr M M' r)) := by
  refine Mt.of (fun ad => [some (.ref (ad (3 * r))), some (.ref (ad (3 * q))), none]) (by decide +kernel) (fun _ => rfl) (fun _ => rfl) (fun _ => Nat.le_of_ble_eq_true rfl) fun X hX C hR => ?_
  subst hX
  show G X M 0 [some (.ref ((zA X) (3 * r))), some (.ref ((zA X) (3 * q))), none] []
  have hc2 := hL.2.1
  have lp : ∀ (fk : Nat) (i : Nat) (N : zM), 120 - i < fk → i ≤ L.length → zRow N r (L.take i) → zFr M N r → G X N 2 [some (.ref (zA X (3 * r))), some (.ref (zA X (3 * q))), some (.int (jI (i : Int)))] [] := by
    intro fk
    induction fk with
    | zero => intro i N hk; exact absurd hk (Nat.not_lt_zero _)
    | succ fk ih =>
      intro i N hk hi hN hF
      have hQ := hL.apart hF hqr
      refine g_iload_n C dX5_addAll_2 rfl ?_
      refine g_aload_n C dX5_addAll_3 rfl ?_
      refine gf_Row_count C (by omega) tw_147 dX5_addAll_4 ?_
      rw [hQ.1]
      refine g_icmp_ge (tgt := 32) C dX5_addAll_7 rfl (by omega) (by omega) (fun h7 => ?_) (fun h7 => ?_)
      · refine g_vret C hR dX5_addAll_32 ?_
        refine ⟨rfl, ?_, hF⟩
        rw [show i = L.length by omega, List.take_length] at hN
        exact hN
      · refine g_aload_n C dX5_addAll_10 rfl ?_
        refine g_aload_n C dX5_addAll_11 rfl ?_
        refine gf_Row_keys C (by omega) tw_145 dX5_addAll_12 ?_
        refine g_iload_n C dX5_addAll_15 rfl ?_
        refine ga_keys C (by omega) _ (by omega) rfl dX5_addAll_16 ?_
        rw [(hQ.2.2 i (by omega)).1]
        refine g_aload_n C dX5_addAll_17 rfl ?_
        show G X _ 18 _ _
        refine gf_Row_marks C (by omega) tw_146 dX5_addAll_18 ?_
        refine g_iload_n C dX5_addAll_21 rfl ?_
        refine ga_marks C (by omega) _ (by omega) rfl dX5_addAll_22 ?_
        rw [(hQ.2.2 i (by omega)).2]
        refine gc_Row_add C (by decide) tw_619 (Nat.le_of_ble_eq_true rfl) rfl dX5_addAll_23 hr _ _ (by rw [List.length_take]; omega) hN (fun N2 ⟨hN2, hF2⟩ => ?_)
        rw [← rec_take (by omega)] at hN2
        refine g_iinc C dX5_addAll_26 rfl ?_
        show G X _ 29 [_, _, _] _
        refine g_goto (tgt := 2) C dX5_addAll_29 rfl ?_
        show G X _ 2 _ _
        exact ih (i + 1) _ (by omega) (by omega) hN2 (hF.trans hF2)
  refine g_iconst C dX5_addAll_0 ?_
  refine g_istore_n C dX5_addAll_1 (Nat.le_of_ble_eq_true rfl) ?_
  show G X _ 2 [_, _, _] _
  exact lp 200 0 M (by omega) (Nat.zero_le _) h0 zFr.refl
theorem gc_Row_addAll {X : z_X} {cc : ByteArray} {own : String} {ret : Option FieldType} {dC nC : Nat} {M : zM} {pc : Nat} {lv : List (Option Value)} {st : List Value} (C : Cx cc own ret dC nC X) (hdep : 3 ≤ dC) {idx : Nat} (hl0 : Cond.methodLink own idx yX5_addAll ∈ tT) (hcat : (st.map fun v => v.category).sum ≤ 8) (hlen : lv.length = nC) (hdec : decode cc pc = .ok (.invokevirtual idx, 3)) {r q : Nat} (hr : r < 20) (hq : q < 20) (hqr : q ≠ r) {L : List (Int × Int)} (hL : zRow M q L) (h0 : zRow M r []) (kk : ∀ M' : zM, (zRow M' r L ∧ zFr M M' r) → G X M' (pc + 3) lv st) : G X M pc lv (.ref (zA X (3 * q)) :: .ref (zA X (3 * r)) :: st) := by
  refine g_callV (k := 1) (o := 3 * r) C (c_Row_addAll (zL X) hr hq hqr M hL h0) mfX5_addAll hl0 ⟨rfl, by decide +kernel, by decide +kernel, by decide +kernel⟩ ⟨hdep, by decide⟩ (by omega) (fun _ _ _ _ => ze_row (by omega)) rfl rfl rfl rfl hcat hlen hdec (fun v M' h => ?_)
  obtain ⟨rfl, h⟩ := h
  exact kk M' h
set_option maxHeartbeats 4000000 in
set_option maxRecDepth 10000 in
theorem c_Row_placeNotBelow (l : Launch) {r : Nat} (hr : r < 20) {L : List (Int × Int)} (k : Int) (f : Nat) (hk : -2000 ≤ k ∧ k ≤ 2000) (hf : f ≤ 120) (M : zM) (hL : zRow M r L) (hb : zIn L) : Mt l 2 yX5_placeNotBelow cX5_placeNotBelow 4 (some .int) (fun ad => [.ref (ad (3 * r)), .int (jI (k)), .int (jI ((f : Int)))]) M (fun _ vv M' => vv = some (.int (jI ((pnb L k f : Int)))) ∧ M' = M) := by
  refine Mt.of (fun ad => [some (.ref (ad (3 * r))), some (.int (jI (k))), some (.int (jI ((f : Int)))), none]) (by decide +kernel) (fun _ => rfl) (fun _ => rfl) (fun _ => Nat.le_of_ble_eq_true rfl) fun X hX C hR => ?_
  subst hX
  show G X M 0 [some (.ref ((zA X) (3 * r))), some (.int (jI (k))), some (.int (jI ((f : Int)))), none] []
  obtain ⟨hc, hc2, hc3⟩ := id hL
  have lp : ∀ (fk : Nat) (i : Nat), 200 - i < fk → i ≤ 120 → pnb L k i = pnb L k f → G X M 6 [some (.ref (zA X (3 * r))), some (.int (jI k)), some (.int (jI (f : Int))), some (.int (jI (i : Int)))] [] := by
    intro fk
    induction fk with
    | zero => intro i hk; exact absurd hk (Nat.not_lt_zero _)
    | succ fk ih =>
      intro i hk hi hp
      refine g_iload_n C dX5_placeNotBelow_6 rfl ?_
      refine g_aload_n C dX5_placeNotBelow_7 rfl ?_
      refine gf_Row_count C (by omega) tw_147 dX5_placeNotBelow_8 ?_
      refine g_icmp_ge (tgt := 30) C dX5_placeNotBelow_11 rfl (by omega) (by omega) (fun h11 => ?_) (fun h11 => ?_)
      · refine g_iload_n C dX5_placeNotBelow_30 rfl ?_
        refine g_iret C hR dX5_placeNotBelow_31 ?_
        refine ⟨?_, rfl⟩
        rw [← hp]
        first | rw [pnb_end (by omega)] | rw [pnb_stop (by omega) (by omega)]
      · refine g_aload_n C dX5_placeNotBelow_14 rfl ?_
        refine gf_Row_keys C (by omega) tw_145 dX5_placeNotBelow_15 ?_
        refine g_iload_n C dX5_placeNotBelow_18 rfl ?_
        refine ga_keys C (by omega) _ (by omega) rfl dX5_placeNotBelow_19 ?_
        rw [(hc3 i (by omega)).1]
        refine g_iload_n C dX5_placeNotBelow_20 rfl ?_
        have b1 := hb.at i
        refine g_icmp_ge (tgt := 30) C dX5_placeNotBelow_21 rfl (by omega) (by omega) (fun h21 => ?_) (fun h21 => ?_)
        · refine g_iload_n C dX5_placeNotBelow_30 rfl ?_
          refine g_iret C hR dX5_placeNotBelow_31 ?_
          refine ⟨?_, rfl⟩
          rw [← hp]
          first | rw [pnb_end (by omega)] | rw [pnb_stop (by omega) (by omega)]
        · refine g_iinc C dX5_placeNotBelow_24 rfl ?_
          show G X _ 27 [_, _, _, _] _
          refine g_goto (tgt := 6) C dX5_placeNotBelow_27 rfl ?_
          show G X _ 6 _ _
          exact ih (i + 1) (by omega) (by omega) (by rw [← pnb_step (by omega) (by omega)]; exact hp)
  refine g_iconst C dX5_placeNotBelow_0 ?_
  refine g_iload_n C dX5_placeNotBelow_1 rfl ?_
  refine gc_max C (by decide) tw_727 (Nat.le_of_ble_eq_true rfl) rfl dX5_placeNotBelow_2 _ _ (by omega) (by omega) (?_)
  rw [show (if (f : Int) ≤ 0 then (0 : Int) else (f : Int)) = (f : Int) by by_cases q : (f : Int) ≤ 0 <;> simp [q] <;> omega]
  refine g_istore_n C dX5_placeNotBelow_5 (Nat.le_of_ble_eq_true rfl) ?_
  show G X _ 6 [_, _, _, _] _
  exact lp 300 f (by omega) (by omega) rfl
theorem gc_Row_placeNotBelow {X : z_X} {cc : ByteArray} {own : String} {ret : Option FieldType} {dC nC : Nat} {M : zM} {pc : Nat} {lv : List (Option Value)} {st : List Value} (C : Cx cc own ret dC nC X) (hdep : 3 ≤ dC) {idx : Nat} (hl0 : Cond.methodLink own idx yX5_placeNotBelow ∈ tT) (hcat : (st.map fun v => v.category).sum ≤ 8) (hlen : lv.length = nC) (hdec : decode cc pc = .ok (.invokevirtual idx, 3)) {r : Nat} (hr : r < 20) {L : List (Int × Int)} (k : Int) (f : Nat) (hk : -2000 ≤ k ∧ k ≤ 2000) (hf : f ≤ 120) (hL : zRow M r L) (hb : zIn L) (kk : G X M (pc + 3) lv (.int (jI ((pnb L k f : Int))) :: st)) : G X M pc lv (.int (jI ((f : Int))) :: .int (jI (k)) :: .ref (zA X (3 * r)) :: st) := by
  refine g_callV (k := 2) (o := 3 * r) C (c_Row_placeNotBelow (zL X) hr k f hk hf M hL hb) mfX5_placeNotBelow hl0 ⟨rfl, by decide +kernel, by decide +kernel, by decide +kernel⟩ ⟨hdep, by decide⟩ (by omega) (fun _ _ _ _ => ze_row (by omega)) rfl rfl rfl rfl hcat hlen hdec (fun v M' h => ?_)
  obtain ⟨rfl, rfl⟩ := h
  exact kk
set_option maxHeartbeats 4000000 in
set_option maxRecDepth 10000 in
theorem c_Num_empty (l : Launch) {r : Nat} (hr : r < 8) (M : zM)  : Mt l 1 yX2_empty cX2_empty 1 none (fun ad => [.ref (ad (60 + 2 * r))]) M (fun _ vv M' => vv = none ∧ (zNum M' r [] ∧ zFn M M' r)) := by
  refine Mt.of (fun ad => [some (.ref (ad (60 + 2 * r)))]) (by decide +kernel) (fun _ => rfl) (fun _ => rfl) (fun _ => Nat.le_of_ble_eq_true rfl) fun X hX C hR => ?_
  subst hX
  show G X M 0 [some (.ref ((zA X) (60 + 2 * r)))] []
  refine g_aload_n C dX2_empty_0 rfl ?_
  refine g_iconst C dX2_empty_1 ?_
  refine gp_Num_count C (by omega) tw_40 dX2_empty_2 ?_
  refine g_vret C hR dX2_empty_5 ?_
  refine ⟨rfl, ⟨by rw [zu_s]; rfl, by simp, fun i hi => by simp at hi⟩, fun o h0 h1 => zu_o _ _ _ _ h0⟩
theorem gc_Num_empty {X : z_X} {cc : ByteArray} {own : String} {ret : Option FieldType} {dC nC : Nat} {M : zM} {pc : Nat} {lv : List (Option Value)} {st : List Value} (C : Cx cc own ret dC nC X) (hdep : 2 ≤ dC) {idx : Nat} (hl0 : Cond.methodLink own idx yX2_empty ∈ tT) (hcat : (st.map fun v => v.category).sum ≤ 8) (hlen : lv.length = nC) (hdec : decode cc pc = .ok (.invokevirtual idx, 3)) {r : Nat} (hr : r < 8)  (kk : ∀ M' : zM, (zNum M' r [] ∧ zFn M M' r) → G X M' (pc + 3) lv st) : G X M pc lv (.ref (zA X (60 + 2 * r)) :: st) := by
  refine g_callV (k := 0) (o := 60 + 2 * r) C (c_Num_empty (zL X) hr M ) mfX2_empty hl0 ⟨rfl, by decide +kernel, by decide +kernel, by decide +kernel⟩ ⟨hdep, by decide⟩ (by omega) (fun _ _ _ _ => ze_num (by omega)) rfl rfl rfl rfl hcat hlen hdec (fun v M' h => ?_)
  obtain ⟨rfl, h⟩ := h
  exact kk M' h
set_option maxHeartbeats 4000000 in
set_option maxRecDepth 10000 in
theorem c_Num_count (l : Launch) {r : Nat} (hr : r < 8) {L : List Int} (M : zM) (hL : zNum M r L) : Mt l 1 yX2_count cX2_count 1 (some .int) (fun ad => [.ref (ad (60 + 2 * r))]) M (fun _ vv M' => vv = some (.int (jI ((L.length : Int)))) ∧ M' = M) := by
  refine Mt.of (fun ad => [some (.ref (ad (60 + 2 * r)))]) (by decide +kernel) (fun _ => rfl) (fun _ => rfl) (fun _ => Nat.le_of_ble_eq_true rfl) fun X hX C hR => ?_
  subst hX
  show G X M 0 [some (.ref ((zA X) (60 + 2 * r)))] []
  refine g_aload_n C dX2_count_0 rfl ?_
  refine gf_Num_count C (by omega) tw_40 dX2_count_1 ?_
  refine g_iret C hR dX2_count_4 ?_
  exact ⟨by rw [hL.1], rfl⟩
theorem gc_Num_count {X : z_X} {cc : ByteArray} {own : String} {ret : Option FieldType} {dC nC : Nat} {M : zM} {pc : Nat} {lv : List (Option Value)} {st : List Value} (C : Cx cc own ret dC nC X) (hdep : 2 ≤ dC) {idx : Nat} (hl0 : Cond.methodLink own idx yX2_count ∈ tT) (hcat : (st.map fun v => v.category).sum ≤ 8) (hlen : lv.length = nC) (hdec : decode cc pc = .ok (.invokevirtual idx, 3)) {r : Nat} (hr : r < 8) {L : List Int} (hL : zNum M r L) (kk : G X M (pc + 3) lv (.int (jI ((L.length : Int))) :: st)) : G X M pc lv (.ref (zA X (60 + 2 * r)) :: st) := by
  refine g_callV (k := 0) (o := 60 + 2 * r) C (c_Num_count (zL X) hr M hL) mfX2_count hl0 ⟨rfl, by decide +kernel, by decide +kernel, by decide +kernel⟩ ⟨hdep, by decide⟩ (by omega) (fun _ _ _ _ => ze_num (by omega)) rfl rfl rfl rfl hcat hlen hdec (fun v M' h => ?_)
  obtain ⟨rfl, rfl⟩ := h
  exact kk
set_option maxHeartbeats 4000000 in
set_option maxRecDepth 10000 in
theorem c_Num_has (l : Launch) {r : Nat} (hr : r < 8) {L : List Int} (x : Int) (hx : -2147483648 ≤ x ∧ x ≤ 2147483647) (M : zM) (hL : zNum M r L) : Mt l 1 yX2_has cX2_has 2 (some .boolean) (fun ad => [.ref (ad (60 + 2 * r)), .int (jI (x))]) M (fun _ vv M' => vv = some (.int (jI (if 0 ≤ x ∧ x < (L.length : Int) then 1 else 0))) ∧ M' = M) := by
  refine Mt.of (fun ad => [some (.ref (ad (60 + 2 * r))), some (.int (jI (x)))]) (by decide +kernel) (fun _ => rfl) (fun _ => rfl) (fun _ => Nat.le_of_ble_eq_true rfl) fun X hX C hR => ?_
  subst hX
  show G X M 0 [some (.ref ((zA X) (60 + 2 * r))), some (.int (jI (x)))] []
  obtain ⟨hc, hc2, hc3⟩ := hL
  refine g_iload_n C dX2_has_0 rfl ?_
  refine g_if_lt (tgt := 16) C dX2_has_1 rfl (by omega) (fun h1 => ?_) (fun h1 => ?_)
  · refine g_iconst C dX2_has_16 ?_
    refine g_zret C hR (by omega) dX2_has_17 ?_
    refine ⟨?_, rfl⟩
    first | rw [if_pos (by omega)] | rw [if_neg (by omega)]
  · refine g_iload_n C dX2_has_4 rfl ?_
    refine g_aload_n C dX2_has_5 rfl ?_
    refine gf_Num_count C (by omega) tw_40 dX2_has_6 ?_
    refine g_icmp_ge (tgt := 16) C dX2_has_9 rfl (by omega) (by omega) (fun h9 => ?_) (fun h9 => ?_)
    · refine g_iconst C dX2_has_16 ?_
      refine g_zret C hR (by omega) dX2_has_17 ?_
      refine ⟨?_, rfl⟩
      first | rw [if_pos (by omega)] | rw [if_neg (by omega)]
    · refine g_iconst C dX2_has_12 ?_
      refine g_goto (tgt := 17) C dX2_has_13 rfl ?_
      show G X _ 17 _ _
      refine g_zret C hR (by omega) dX2_has_17 ?_
      refine ⟨?_, rfl⟩
      first | rw [if_pos (by omega)] | rw [if_neg (by omega)]
theorem gc_Num_has {X : z_X} {cc : ByteArray} {own : String} {ret : Option FieldType} {dC nC : Nat} {M : zM} {pc : Nat} {lv : List (Option Value)} {st : List Value} (C : Cx cc own ret dC nC X) (hdep : 2 ≤ dC) {idx : Nat} (hl0 : Cond.methodLink own idx yX2_has ∈ tT) (hcat : (st.map fun v => v.category).sum ≤ 8) (hlen : lv.length = nC) (hdec : decode cc pc = .ok (.invokevirtual idx, 3)) {r : Nat} (hr : r < 8) {L : List Int} (x : Int) (hx : -2147483648 ≤ x ∧ x ≤ 2147483647) (hL : zNum M r L) (kk : G X M (pc + 3) lv (.int (jI (if 0 ≤ x ∧ x < (L.length : Int) then 1 else 0)) :: st)) : G X M pc lv (.int (jI (x)) :: .ref (zA X (60 + 2 * r)) :: st) := by
  refine g_callV (k := 1) (o := 60 + 2 * r) C (c_Num_has (zL X) hr x hx M hL) mfX2_has hl0 ⟨rfl, by decide +kernel, by decide +kernel, by decide +kernel⟩ ⟨hdep, by decide⟩ (by omega) (fun _ _ _ _ => ze_num (by omega)) rfl rfl rfl rfl hcat hlen hdec (fun v M' h => ?_)
  obtain ⟨rfl, rfl⟩ := h
  exact kk
set_option maxHeartbeats 4000000 in
set_option maxRecDepth 10000 in
theorem c_Num_valueAt (l : Launch) {r : Nat} (hr : r < 8) {L : List Int} (i : Nat) (hi : i < L.length) (M : zM) (hL : zNum M r L) : Mt l 1 yX2_valueAt cX2_valueAt 2 (some .int) (fun ad => [.ref (ad (60 + 2 * r)), .int (jI ((i : Int)))]) M (fun _ vv M' => vv = some (.int (jI (nA L i))) ∧ M' = M) := by
  refine Mt.of (fun ad => [some (.ref (ad (60 + 2 * r))), some (.int (jI ((i : Int))))]) (by decide +kernel) (fun _ => rfl) (fun _ => rfl) (fun _ => Nat.le_of_ble_eq_true rfl) fun X hX C hR => ?_
  subst hX
  show G X M 0 [some (.ref ((zA X) (60 + 2 * r))), some (.int (jI ((i : Int))))] []
  obtain ⟨hc, hc2, hc3⟩ := hL
  refine g_iload_n C dX2_valueAt_0 rfl ?_
  refine g_if_lt (tgt := 21) C dX2_valueAt_1 rfl (by omega) (fun h1 => ?_) (fun h1 => ?_)
  · omega
  · refine g_iload_n C dX2_valueAt_4 rfl ?_
    refine g_aload_n C dX2_valueAt_5 rfl ?_
    refine gf_Num_count C (by omega) tw_40 dX2_valueAt_6 ?_
    refine g_icmp_ge (tgt := 21) C dX2_valueAt_9 rfl (by omega) (by omega) (fun h9 => ?_) (fun h9 => ?_)
    · omega
    · refine g_aload_n C dX2_valueAt_12 rfl ?_
      refine gf_Num_values C (by omega) tw_39 dX2_valueAt_13 ?_
      refine g_iload_n C dX2_valueAt_16 rfl ?_
      refine ga_vals C (by omega) _ (by omega) rfl dX2_valueAt_17 ?_
      refine g_goto (tgt := 22) C dX2_valueAt_18 rfl ?_
      show G X _ 22 _ _
      refine g_iret C hR dX2_valueAt_22 ?_
      exact ⟨by rw [hc3 i hi], rfl⟩
theorem gc_Num_valueAt {X : z_X} {cc : ByteArray} {own : String} {ret : Option FieldType} {dC nC : Nat} {M : zM} {pc : Nat} {lv : List (Option Value)} {st : List Value} (C : Cx cc own ret dC nC X) (hdep : 2 ≤ dC) {idx : Nat} (hl0 : Cond.methodLink own idx yX2_valueAt ∈ tT) (hcat : (st.map fun v => v.category).sum ≤ 8) (hlen : lv.length = nC) (hdec : decode cc pc = .ok (.invokevirtual idx, 3)) {r : Nat} (hr : r < 8) {L : List Int} (i : Nat) (hi : i < L.length) (hL : zNum M r L) (kk : G X M (pc + 3) lv (.int (jI (nA L i)) :: st)) : G X M pc lv (.int (jI ((i : Int))) :: .ref (zA X (60 + 2 * r)) :: st) := by
  refine g_callV (k := 1) (o := 60 + 2 * r) C (c_Num_valueAt (zL X) hr i hi M hL) mfX2_valueAt hl0 ⟨rfl, by decide +kernel, by decide +kernel, by decide +kernel⟩ ⟨hdep, by decide⟩ (by omega) (fun _ _ _ _ => ze_num (by omega)) rfl rfl rfl rfl hcat hlen hdec (fun v M' h => ?_)
  obtain ⟨rfl, rfl⟩ := h
  exact kk
set_option maxHeartbeats 4000000 in
set_option maxRecDepth 10000 in
theorem c_Num_add (l : Launch) {r : Nat} (hr : r < 8) {L : List Int} (k : Int) (hs : L.length < 120) (M : zM) (hL : zNum M r L) : Mt l 1 yX2_add cX2_add 2 none (fun ad => [.ref (ad (60 + 2 * r)), .int (jI (k))]) M (fun _ vv M' => vv = none ∧ (zNum M' r (L ++ [k]) ∧ zFn M M' r)) := by
  refine Mt.of (fun ad => [some (.ref (ad (60 + 2 * r))), some (.int (jI (k)))]) (by decide +kernel) (fun _ => rfl) (fun _ => rfl) (fun _ => Nat.le_of_ble_eq_true rfl) fun X hX C hR => ?_
  subst hX
  show G X M 0 [some (.ref ((zA X) (60 + 2 * r))), some (.int (jI (k)))] []
  obtain ⟨hc, hc2, hc3⟩ := id hL
  refine g_aload_n C dX2_add_0 rfl ?_
  refine gf_Num_count C (by omega) tw_40 dX2_add_1 ?_
  refine g_aload_n C dX2_add_4 rfl ?_
  refine gf_Num_values C (by omega) tw_39 dX2_add_5 ?_
  refine gl_vals C (by omega) dX2_add_8 ?_
  refine g_icmp_ge (tgt := 32) C dX2_add_9 rfl (by omega) (by omega) (fun h9 => ?_) (fun h9 => ?_)
  · omega
  · refine g_aload_n C dX2_add_12 rfl ?_
    refine gf_Num_values C (by omega) tw_39 dX2_add_13 ?_
    refine g_aload_n C dX2_add_16 rfl ?_
    refine gf_Num_count C (by omega) tw_40 dX2_add_17 ?_
    rw [hc]
    refine g_iload_n C dX2_add_20 rfl ?_
    refine gs_vals C (by omega) _ (by omega) rfl dX2_add_21 ?_
    show G X _ 22 _ _
    refine g_aload_n C dX2_add_22 rfl ?_
    refine g_dup C dX2_add_23 rfl ?_
    refine gf_Num_count C (by omega) tw_40 dX2_add_24 ?_
    rw [zu_o _ _ _ _ (by omega), hc]
    refine g_iconst C dX2_add_27 ?_
    refine g_iadd C dX2_add_28 ?_
    refine gp_Num_count C (by omega) tw_40 dX2_add_29 ?_
    show G X _ 32 _ _
    refine g_vret C hR dX2_add_32 ?_
    exact ⟨rfl, hL.push hs k, zFn.push⟩
theorem gc_Num_add {X : z_X} {cc : ByteArray} {own : String} {ret : Option FieldType} {dC nC : Nat} {M : zM} {pc : Nat} {lv : List (Option Value)} {st : List Value} (C : Cx cc own ret dC nC X) (hdep : 2 ≤ dC) {idx : Nat} (hl0 : Cond.methodLink own idx yX2_add ∈ tT) (hcat : (st.map fun v => v.category).sum ≤ 8) (hlen : lv.length = nC) (hdec : decode cc pc = .ok (.invokevirtual idx, 3)) {r : Nat} (hr : r < 8) {L : List Int} (k : Int) (hs : L.length < 120) (hL : zNum M r L) (kk : ∀ M' : zM, (zNum M' r (L ++ [k]) ∧ zFn M M' r) → G X M' (pc + 3) lv st) : G X M pc lv (.int (jI (k)) :: .ref (zA X (60 + 2 * r)) :: st) := by
  refine g_callV (k := 1) (o := 60 + 2 * r) C (c_Num_add (zL X) hr k hs M hL) mfX2_add hl0 ⟨rfl, by decide +kernel, by decide +kernel, by decide +kernel⟩ ⟨hdep, by decide⟩ (by omega) (fun _ _ _ _ => ze_num (by omega)) rfl rfl rfl rfl hcat hlen hdec (fun v M' h => ?_)
  obtain ⟨rfl, h⟩ := h
  exact kk M' h
set_option maxHeartbeats 4000000 in
set_option maxRecDepth 10000 in
theorem c_Num_addAll (l : Launch) {r q : Nat} (hr : r < 8) (hq : q < 8) (hqr : q ≠ r) {L : List Int} (M : zM) (hL : zNum M q L) (h0 : zNum M r []) : Mt l 2 yX2_addAll cX2_addAll 3 none (fun ad => [.ref (ad (60 + 2 * r)), .ref (ad (60 + 2 * q))]) M (fun _ vv M' => vv = none ∧ (zNum M' r L ∧ zFn M M' r)) := by
  refine Mt.of (fun ad => [some (.ref (ad (60 + 2 * r))), some (.ref (ad (60 + 2 * q))), none]) (by decide +kernel) (fun _ => rfl) (fun _ => rfl) (fun _ => Nat.le_of_ble_eq_true rfl) fun X hX C hR => ?_
  subst hX
  show G X M 0 [some (.ref ((zA X) (60 + 2 * r))), some (.ref ((zA X) (60 + 2 * q))), none] []
  have hc2 := hL.2.1
  have lp : ∀ (fk : Nat) (i : Nat) (N : zM), 120 - i < fk → i ≤ L.length → zNum N r (L.take i) → zFn M N r → G X N 2 [some (.ref (zA X (60 + 2 * r))), some (.ref (zA X (60 + 2 * q))), some (.int (jI (i : Int)))] [] := by
    intro fk
    induction fk with
    | zero => intro i N hk; exact absurd hk (Nat.not_lt_zero _)
    | succ fk ih =>
      intro i N hk hi hN hF
      have hQ := hL.apart hF hqr
      refine g_iload_n C dX2_addAll_2 rfl ?_
      refine g_aload_n C dX2_addAll_3 rfl ?_
      refine gf_Num_count C (by omega) tw_40 dX2_addAll_4 ?_
      rw [hQ.1]
      refine g_icmp_ge (tgt := 26) C dX2_addAll_7 rfl (by omega) (by omega) (fun h7 => ?_) (fun h7 => ?_)
      · refine g_vret C hR dX2_addAll_26 ?_
        refine ⟨rfl, ?_, hF⟩
        rw [show i = L.length by omega, List.take_length] at hN
        exact hN
      · refine g_aload_n C dX2_addAll_10 rfl ?_
        refine g_aload_n C dX2_addAll_11 rfl ?_
        refine gf_Num_values C (by omega) tw_39 dX2_addAll_12 ?_
        refine g_iload_n C dX2_addAll_15 rfl ?_
        refine ga_vals C (by omega) _ (by omega) rfl dX2_addAll_16 ?_
        rw [hQ.2.2 i (by omega)]
        refine gc_Num_add C (by decide) tw_554 (Nat.le_of_ble_eq_true rfl) rfl dX2_addAll_17 hr _ (by rw [List.length_take]; omega) hN (fun N2 ⟨hN2, hF2⟩ => ?_)
        rw [← num_take (by omega)] at hN2
        show G X _ 20 _ _
        refine g_iinc C dX2_addAll_20 rfl ?_
        show G X _ 23 [_, _, _] _
        refine g_goto (tgt := 2) C dX2_addAll_23 rfl ?_
        show G X _ 2 _ _
        exact ih (i + 1) _ (by omega) (by omega) hN2 (hF.trans hF2)
  refine g_iconst C dX2_addAll_0 ?_
  refine g_istore_n C dX2_addAll_1 (Nat.le_of_ble_eq_true rfl) ?_
  show G X _ 2 [_, _, _] _
  exact lp 200 0 M (by omega) (Nat.zero_le _) h0 zFn.refl
theorem gc_Num_addAll {X : z_X} {cc : ByteArray} {own : String} {ret : Option FieldType} {dC nC : Nat} {M : zM} {pc : Nat} {lv : List (Option Value)} {st : List Value} (C : Cx cc own ret dC nC X) (hdep : 3 ≤ dC) {idx : Nat} (hl0 : Cond.methodLink own idx yX2_addAll ∈ tT) (hcat : (st.map fun v => v.category).sum ≤ 8) (hlen : lv.length = nC) (hdec : decode cc pc = .ok (.invokevirtual idx, 3)) {r q : Nat} (hr : r < 8) (hq : q < 8) (hqr : q ≠ r) {L : List Int} (hL : zNum M q L) (h0 : zNum M r []) (kk : ∀ M' : zM, (zNum M' r L ∧ zFn M M' r) → G X M' (pc + 3) lv st) : G X M pc lv (.ref (zA X (60 + 2 * q)) :: .ref (zA X (60 + 2 * r)) :: st) := by
  refine g_callV (k := 1) (o := 60 + 2 * r) C (c_Num_addAll (zL X) hr hq hqr M hL h0) mfX2_addAll hl0 ⟨rfl, by decide +kernel, by decide +kernel, by decide +kernel⟩ ⟨hdep, by decide⟩ (by omega) (fun _ _ _ _ => ze_num (by omega)) rfl rfl rfl rfl hcat hlen hdec (fun v M' h => ?_)
  obtain ⟨rfl, h⟩ := h
  exact kk M' h
set_option maxHeartbeats 4000000 in
set_option maxRecDepth 10000 in
theorem c_Num_set (l : Launch) {r : Nat} (hr : r < 8) {L : List Int} (i : Nat) (v : Int) (hi : i < L.length) (M : zM) (hL : zNum M r L) : Mt l 1 yX2_set cX2_set 3 none (fun ad => [.ref (ad (60 + 2 * r)), .int (jI ((i : Int))), .int (jI (v))]) M (fun _ vv M' => vv = none ∧ (zNum M' r (L.set i v) ∧ zFn M M' r)) := by
  refine Mt.of (fun ad => [some (.ref (ad (60 + 2 * r))), some (.int (jI ((i : Int)))), some (.int (jI (v)))]) (by decide +kernel) (fun _ => rfl) (fun _ => rfl) (fun _ => Nat.le_of_ble_eq_true rfl) fun X hX C hR => ?_
  subst hX
  show G X M 0 [some (.ref ((zA X) (60 + 2 * r))), some (.int (jI ((i : Int)))), some (.int (jI (v)))] []
  obtain ⟨hc, hc2, hc3⟩ := id hL
  refine g_iload_n C dX2_set_0 rfl ?_
  refine g_if_lt (tgt := 19) C dX2_set_1 rfl (by omega) (fun h1 => ?_) (fun h1 => ?_)
  · omega
  · refine g_iload_n C dX2_set_4 rfl ?_
    refine g_aload_n C dX2_set_5 rfl ?_
    refine gf_Num_count C (by omega) tw_40 dX2_set_6 ?_
    refine g_icmp_ge (tgt := 19) C dX2_set_9 rfl (by omega) (by omega) (fun h9 => ?_) (fun h9 => ?_)
    · omega
    · refine g_aload_n C dX2_set_12 rfl ?_
      refine gf_Num_values C (by omega) tw_39 dX2_set_13 ?_
      refine g_iload_n C dX2_set_16 rfl ?_
      refine g_iload_n C dX2_set_17 rfl ?_
      refine gs_vals C (by omega) _ (by omega) rfl dX2_set_18 ?_
      refine g_vret C hR dX2_set_19 ?_
      exact ⟨rfl, hL.put hi v, zFn.put⟩
theorem gc_Num_set {X : z_X} {cc : ByteArray} {own : String} {ret : Option FieldType} {dC nC : Nat} {M : zM} {pc : Nat} {lv : List (Option Value)} {st : List Value} (C : Cx cc own ret dC nC X) (hdep : 2 ≤ dC) {idx : Nat} (hl0 : Cond.methodLink own idx yX2_set ∈ tT) (hcat : (st.map fun v => v.category).sum ≤ 8) (hlen : lv.length = nC) (hdec : decode cc pc = .ok (.invokevirtual idx, 3)) {r : Nat} (hr : r < 8) {L : List Int} (i : Nat) (v : Int) (hi : i < L.length) (hL : zNum M r L) (kk : ∀ M' : zM, (zNum M' r (L.set i v) ∧ zFn M M' r) → G X M' (pc + 3) lv st) : G X M pc lv (.int (jI (v)) :: .int (jI ((i : Int))) :: .ref (zA X (60 + 2 * r)) :: st) := by
  refine g_callV (k := 2) (o := 60 + 2 * r) C (c_Num_set (zL X) hr i v hi M hL) mfX2_set hl0 ⟨rfl, by decide +kernel, by decide +kernel, by decide +kernel⟩ ⟨hdep, by decide⟩ (by omega) (fun _ _ _ _ => ze_num (by omega)) rfl rfl rfl rfl hcat hlen hdec (fun v M' h => ?_)
  obtain ⟨rfl, h⟩ := h
  exact kk M' h
set_option maxHeartbeats 4000000 in
set_option maxRecDepth 10000 in
theorem c_Num_cutTo (l : Launch) {r : Nat} (hr : r < 8) {L : List Int} (c : Nat) (hc0 : c ≤ L.length) (M : zM) (hL : zNum M r L) : Mt l 1 yX2_cutTo cX2_cutTo 2 none (fun ad => [.ref (ad (60 + 2 * r)), .int (jI ((c : Int)))]) M (fun _ vv M' => vv = none ∧ (zNum M' r (L.take c) ∧ zFn M M' r)) := by
  refine Mt.of (fun ad => [some (.ref (ad (60 + 2 * r))), some (.int (jI ((c : Int))))]) (by decide +kernel) (fun _ => rfl) (fun _ => rfl) (fun _ => Nat.le_of_ble_eq_true rfl) fun X hX C hR => ?_
  subst hX
  show G X M 0 [some (.ref ((zA X) (60 + 2 * r))), some (.int (jI ((c : Int))))] []
  obtain ⟨hc, hc2, hc3⟩ := id hL
  refine g_iload_n C dX2_cutTo_0 rfl ?_
  refine g_if_lt (tgt := 17) C dX2_cutTo_1 rfl (by omega) (fun h1 => ?_) (fun h1 => ?_)
  · omega
  · refine g_iload_n C dX2_cutTo_4 rfl ?_
    refine g_aload_n C dX2_cutTo_5 rfl ?_
    refine gf_Num_count C (by omega) tw_40 dX2_cutTo_6 ?_
    refine g_icmp_ge (tgt := 17) C dX2_cutTo_9 rfl (by omega) (by omega) (fun h9 => ?_) (fun h9 => ?_)
    · refine g_vret C hR dX2_cutTo_17 ⟨rfl, ?_, zFn.refl⟩
      rw [show c = L.length by omega, List.take_length]
      exact hL
    · refine g_aload_n C dX2_cutTo_12 rfl ?_
      refine g_iload_n C dX2_cutTo_13 rfl ?_
      refine gp_Num_count C (by omega) tw_40 dX2_cutTo_14 ?_
      refine g_vret C hR dX2_cutTo_17 ?_
      exact ⟨rfl, hL.cut hc0, fun o h0 _ => zu_o _ _ _ _ h0⟩
theorem gc_Num_cutTo {X : z_X} {cc : ByteArray} {own : String} {ret : Option FieldType} {dC nC : Nat} {M : zM} {pc : Nat} {lv : List (Option Value)} {st : List Value} (C : Cx cc own ret dC nC X) (hdep : 2 ≤ dC) {idx : Nat} (hl0 : Cond.methodLink own idx yX2_cutTo ∈ tT) (hcat : (st.map fun v => v.category).sum ≤ 8) (hlen : lv.length = nC) (hdec : decode cc pc = .ok (.invokevirtual idx, 3)) {r : Nat} (hr : r < 8) {L : List Int} (c : Nat) (hc0 : c ≤ L.length) (hL : zNum M r L) (kk : ∀ M' : zM, (zNum M' r (L.take c) ∧ zFn M M' r) → G X M' (pc + 3) lv st) : G X M pc lv (.int (jI ((c : Int))) :: .ref (zA X (60 + 2 * r)) :: st) := by
  refine g_callV (k := 1) (o := 60 + 2 * r) C (c_Num_cutTo (zL X) hr c hc0 M hL) mfX2_cutTo hl0 ⟨rfl, by decide +kernel, by decide +kernel, by decide +kernel⟩ ⟨hdep, by decide⟩ (by omega) (fun _ _ _ _ => ze_num (by omega)) rfl rfl rfl rfl hcat hlen hdec (fun v M' h => ?_)
  obtain ⟨rfl, h⟩ := h
  exact kk M' h
set_option maxHeartbeats 4000000 in
set_option maxRecDepth 10000 in
theorem c_Num_leastPlace (l : Launch) {r : Nat} (hr : r < 8) {L : List Int} (M : zM) (hL : zNum M r L) (hb : ∀ i, 0 ≤ nA L i ∧ nA L i ≤ 2000000000) : Mt l 1 yX2_leastPlace cX2_leastPlace 3 (some .int) (fun ad => [.ref (ad (60 + 2 * r))]) M (fun _ vv M' => vv = some (.int (jI ((lpF L L.length : Int)))) ∧ M' = M) := by
  refine Mt.of (fun ad => [some (.ref (ad (60 + 2 * r))), none, none]) (by decide +kernel) (fun _ => rfl) (fun _ => rfl) (fun _ => Nat.le_of_ble_eq_true rfl) fun X hX C hR => ?_
  subst hX
  show G X M 0 [some (.ref ((zA X) (60 + 2 * r))), none, none] []
  obtain ⟨hc, hc2, hc3⟩ := id hL
  have lp : ∀ (fk : Nat) (i b : Nat), 200 - i < fk → 1 ≤ i → (i ≤ 1 ∨ i ≤ L.length) → b = lpF L i → b < i → G X M 4 [some (.ref (zA X (60 + 2 * r))), some (.int (jI (b : Int))), some (.int (jI (i : Int)))] [] := by
    intro fk
    induction fk with
    | zero => intro i b hk; exact absurd hk (Nat.not_lt_zero _)
    | succ fk ih =>
      intro i b hk h1 h2 h3 h4
      refine g_iload_n C dX2_leastPlace_4 rfl ?_
      refine g_aload_n C dX2_leastPlace_5 rfl ?_
      refine gf_Num_count C (by omega) tw_40 dX2_leastPlace_6 ?_
      refine g_icmp_ge (tgt := 35) C dX2_leastPlace_9 rfl (by omega) (by omega) (fun h9 => ?_) (fun h9 => ?_)
      · refine g_iload_n C dX2_leastPlace_35 rfl ?_
        refine g_iret C hR dX2_leastPlace_36 ?_
        refine ⟨?_, rfl⟩
        rcases Nat.lt_or_ge 0 L.length with z | z
        · rw [h3, show i = L.length by omega]
        · have e0 : L.length = 0 := by omega
          obtain rfl : i = 1 := by omega
          have : b = 0 := by omega
          rw [this, e0]; rfl
      · refine g_aload_n C dX2_leastPlace_12 rfl ?_
        refine gf_Num_values C (by omega) tw_39 dX2_leastPlace_13 ?_
        refine g_iload_n C dX2_leastPlace_16 rfl ?_
        refine ga_vals C (by omega) _ (by omega) rfl dX2_leastPlace_17 ?_
        rw [hc3 i (by omega)]
        refine g_aload_n C dX2_leastPlace_18 rfl ?_
        refine gf_Num_values C (by omega) tw_39 dX2_leastPlace_19 ?_
        show G X _ 22 _ _
        refine g_iload_n C dX2_leastPlace_22 rfl ?_
        refine ga_vals C (by omega) _ (by omega) rfl dX2_leastPlace_23 ?_
        rw [hc3 b (by omega)]
        have b1 := hb i
        have b2 := hb b
        refine g_icmp_ge (tgt := 29) C dX2_leastPlace_24 rfl (by omega) (by omega) (fun h24 => ?_) (fun h24 => ?_)
        · refine g_iinc C dX2_leastPlace_29 rfl ?_
          show G X _ 32 [_, _, _] _
          refine g_goto (tgt := 4) C dX2_leastPlace_32 rfl ?_
          show G X _ 4 _ _
          exact ih (i + 1) b (by omega) (by omega) (by omega) (by rw [lpF, ← h3, if_neg (by omega)]) (by omega)
        · refine g_iload_n C dX2_leastPlace_27 rfl ?_
          refine g_istore_n C dX2_leastPlace_28 (Nat.le_of_ble_eq_true rfl) ?_
          show G X _ 29 [_, _, _] _
          refine g_iinc C dX2_leastPlace_29 rfl ?_
          show G X _ 32 [_, _, _] _
          refine g_goto (tgt := 4) C dX2_leastPlace_32 rfl ?_
          show G X _ 4 _ _
          exact ih (i + 1) i (by omega) (by omega) (by omega) (by rw [lpF, ← h3, if_pos (by omega)]) (by omega)
  refine g_iconst C dX2_leastPlace_0 ?_
  refine g_istore_n C dX2_leastPlace_1 (Nat.le_of_ble_eq_true rfl) ?_
  show G X _ 2 [_, _, _] _
  refine g_iconst C dX2_leastPlace_2 ?_
  refine g_istore_n C dX2_leastPlace_3 (Nat.le_of_ble_eq_true rfl) ?_
  show G X _ 4 [_, _, _] _
  exact lp 300 1 0 (by omega) (by omega) (by omega) (by simp [lpF]) (by omega)
theorem gc_Num_leastPlace {X : z_X} {cc : ByteArray} {own : String} {ret : Option FieldType} {dC nC : Nat} {M : zM} {pc : Nat} {lv : List (Option Value)} {st : List Value} (C : Cx cc own ret dC nC X) (hdep : 2 ≤ dC) {idx : Nat} (hl0 : Cond.methodLink own idx yX2_leastPlace ∈ tT) (hcat : (st.map fun v => v.category).sum ≤ 8) (hlen : lv.length = nC) (hdec : decode cc pc = .ok (.invokevirtual idx, 3)) {r : Nat} (hr : r < 8) {L : List Int} (hL : zNum M r L) (hb : ∀ i, 0 ≤ nA L i ∧ nA L i ≤ 2000000000) (kk : G X M (pc + 3) lv (.int (jI ((lpF L L.length : Int))) :: st)) : G X M pc lv (.ref (zA X (60 + 2 * r)) :: st) := by
  refine g_callV (k := 0) (o := 60 + 2 * r) C (c_Num_leastPlace (zL X) hr M hL hb) mfX2_leastPlace hl0 ⟨rfl, by decide +kernel, by decide +kernel, by decide +kernel⟩ ⟨hdep, by decide⟩ (by omega) (fun _ _ _ _ => ze_num (by omega)) rfl rfl rfl rfl hcat hlen hdec (fun v M' h => ?_)
  obtain ⟨rfl, rfl⟩ := h
  exact kk
set_option maxHeartbeats 4000000 in
set_option maxRecDepth 10000 in
theorem c_Num_takeAt (l : Launch) {r : Nat} (hr : r < 8) {L : List Int} (q : Nat) (hq : q < L.length) (M : zM) (hL : zNum M r L) : Mt l 1 yX2_takeAt cX2_takeAt 4 (some .int) (fun ad => [.ref (ad (60 + 2 * r)), .int (jI ((q : Int)))]) M (fun _ vv M' => ∃ x : Int, vv = some (.int (jI x)) ∧ (x = nA L q ∧ zNum M' r (L.eraseIdx q) ∧ zFn M M' r)) := by
  refine Mt.of (fun ad => [some (.ref (ad (60 + 2 * r))), some (.int (jI ((q : Int)))), none, none]) (by decide +kernel) (fun _ => rfl) (fun _ => rfl) (fun _ => Nat.le_of_ble_eq_true rfl) fun X hX C hR => ?_
  subst hX
  show G X M 0 [some (.ref ((zA X) (60 + 2 * r))), some (.int (jI ((q : Int)))), none, none] []
  obtain ⟨hc, hc2, hc3⟩ := id hL
  have lp : ∀ (fk : Nat) (b : Nat) (N : zM), 200 - b < fk → q + 1 ≤ b → b ≤ L.length → zFn M N r → N (60 + 2 * r) = M (60 + 2 * r) → (∀ j, j < L.length → N (61 + 2 * r) j = if q ≤ j ∧ j + 1 < b then nA L (j + 1) else nA L j) → G X N 25 [some (.ref (zA X (60 + 2 * r))), some (.int (jI (q : Int))), some (.int (jI (nA L q))), some (.int (jI (b : Int)))] [] := by
    intro fk
    induction fk with
    | zero => intro b N hk; exact absurd hk (Nat.not_lt_zero _)
    | succ fk ih =>
      intro b N hk h1 h2 hF h0 hN
      refine g_iload_n C dX2_takeAt_25 rfl ?_
      refine g_aload_n C dX2_takeAt_26 rfl ?_
      refine gf_Num_count C (by omega) tw_40 dX2_takeAt_27 ?_
      rw [h0, hc]
      refine g_icmp_ge (tgt := 53) C dX2_takeAt_30 rfl (by omega) (by omega) (fun h30 => ?_) (fun h30 => ?_)
      · refine g_aload_n C dX2_takeAt_53 rfl ?_
        refine g_dup C dX2_takeAt_54 rfl ?_
        refine gf_Num_count C (by omega) tw_40 dX2_takeAt_55 ?_
        rw [h0, hc]
        refine g_iconst C dX2_takeAt_58 ?_
        refine g_isub C dX2_takeAt_59 ?_
        refine gp_Num_count C (by omega) tw_40 dX2_takeAt_60 ?_
        show G X _ 63 _ _
        refine g_iload_n C dX2_takeAt_63 rfl ?_
        refine g_iret C hR dX2_takeAt_64 ?_
        refine ⟨_, rfl, rfl, ?_, hF.trans (fun o g0 g1 => zu_o _ _ _ _ g0)⟩
        have hz : (L.eraseIdx q).length = L.length - 1 := List.length_eraseIdx_of_lt hq
        refine ⟨by rw [zu_s, hz]; omega, by omega, fun j hj => ?_⟩
        rw [zu_o _ _ _ _ (by omega), hN j (by omega), nA_erase hj]
        by_cases e : j < q
        · rw [if_pos e, if_neg (by omega)]
        · rw [if_neg e, if_pos (by omega)]
      · refine g_aload_n C dX2_takeAt_33 rfl ?_
        refine gf_Num_values C (by omega) tw_39 dX2_takeAt_34 ?_
        refine g_iload_n C dX2_takeAt_37 rfl ?_
        refine g_iconst C dX2_takeAt_38 ?_
        refine g_isub C dX2_takeAt_39 ?_
        refine g_aload_n C dX2_takeAt_40 rfl ?_
        show G X _ 41 _ _
        refine gf_Num_values C (by omega) tw_39 dX2_takeAt_41 ?_
        refine g_iload_n C dX2_takeAt_44 rfl ?_
        refine ga_vals C (by omega) _ (by omega) rfl dX2_takeAt_45 ?_
        rw [hN b (by omega), if_neg (by omega)]
        refine gs_vals C (by omega) (b - 1) (by omega) (by omega) dX2_takeAt_46 ?_
        refine g_iinc C dX2_takeAt_47 rfl ?_
        show G X _ 50 [_, _, _, _] _
        refine g_goto (tgt := 25) C dX2_takeAt_50 rfl ?_
        show G X _ 25 _ _
        refine ih (b + 1) _ (by omega) (by omega) (by omega) (hF.trans zFn.put) (by rw [zu_o _ _ _ _ (by omega)]; exact h0) (fun j hj => ?_)
        by_cases e : j = b - 1
        · subst e
          rw [zu_s, if_pos (by omega), show b - 1 + 1 = b by omega]
        · rw [zu_k _ _ _ _ e, hN j hj]
          by_cases e2 : q ≤ j ∧ j + 1 < b
          · rw [if_pos e2, if_pos (by omega)]
          · rw [if_neg e2, if_neg (by omega)]
  refine g_iload_n C dX2_takeAt_0 rfl ?_
  refine g_if_lt (tgt := 12) C dX2_takeAt_1 rfl (by omega) (fun h1 => ?_) (fun h1 => ?_)
  · omega
  · refine g_iload_n C dX2_takeAt_4 rfl ?_
    refine g_aload_n C dX2_takeAt_5 rfl ?_
    refine gf_Num_count C (by omega) tw_40 dX2_takeAt_6 ?_
    refine g_icmp_lt (tgt := 14) C dX2_takeAt_9 rfl (by omega) (by omega) (fun h9 => ?_) (fun h9 => ?_)
    · refine g_aload_n C dX2_takeAt_14 rfl ?_
      refine gf_Num_values C (by omega) tw_39 dX2_takeAt_15 ?_
      refine g_iload_n C dX2_takeAt_18 rfl ?_
      refine ga_vals C (by omega) _ (by omega) rfl dX2_takeAt_19 ?_
      rw [hc3 q hq]
      refine g_istore_n C dX2_takeAt_20 (Nat.le_of_ble_eq_true rfl) ?_
      show G X _ 21 [_, _, _, _] _
      refine g_iload_n C dX2_takeAt_21 rfl ?_
      refine g_iconst C dX2_takeAt_22 ?_
      refine g_iadd C dX2_takeAt_23 ?_
      refine g_istore_n C dX2_takeAt_24 (Nat.le_of_ble_eq_true rfl) ?_
      show G X _ 25 [_, _, _, _] _
      exact lp 300 (q + 1) M (by omega) (by omega) (by omega) zFn.refl rfl (fun j hj => by rw [hc3 j hj, if_neg (by omega)])
    · omega
theorem gc_Num_takeAt {X : z_X} {cc : ByteArray} {own : String} {ret : Option FieldType} {dC nC : Nat} {M : zM} {pc : Nat} {lv : List (Option Value)} {st : List Value} (C : Cx cc own ret dC nC X) (hdep : 2 ≤ dC) {idx : Nat} (hl0 : Cond.methodLink own idx yX2_takeAt ∈ tT) (hcat : (st.map fun v => v.category).sum ≤ 8) (hlen : lv.length = nC) (hdec : decode cc pc = .ok (.invokevirtual idx, 3)) {r : Nat} (hr : r < 8) {L : List Int} (q : Nat) (hq : q < L.length) (hL : zNum M r L) (kk : ∀ (x : Int) (M' : zM), (x = nA L q ∧ zNum M' r (L.eraseIdx q) ∧ zFn M M' r) → G X M' (pc + 3) lv (.int (jI x) :: st)) : G X M pc lv (.int (jI ((q : Int))) :: .ref (zA X (60 + 2 * r)) :: st) := by
  refine g_callV (k := 1) (o := 60 + 2 * r) C (c_Num_takeAt (zL X) hr q hq M hL) mfX2_takeAt hl0 ⟨rfl, by decide +kernel, by decide +kernel, by decide +kernel⟩ ⟨hdep, by decide⟩ (by omega) (fun _ _ _ _ => ze_num (by omega)) rfl rfl rfl rfl hcat hlen hdec (fun v M' h => ?_)
  obtain ⟨x, rfl, h⟩ := h
  exact kk x M' h
set_option maxHeartbeats 4000000 in
set_option maxRecDepth 10000 in
theorem c_pagesFor (l : Launch) (a b : Int) (ha : 0 ≤ a ∧ a ≤ 100000) (hb : 1 ≤ b ∧ b ≤ 1000) (M : zM)  : Mt l 1 yX8_pagesFor cX8_pagesFor 2 (some .int) (fun ad => [.int (jI (a)), .int (jI (b))]) M (fun _ vv M' => vv = some (.int (jI (pgs a b))) ∧ M' = M) := by
  refine Mt.of (fun ad => [some (.int (jI (a))), some (.int (jI (b)))]) (by decide +kernel) (fun _ => rfl) (fun _ => rfl) (fun _ => Nat.le_of_ble_eq_true rfl) fun X hX C hR => ?_
  subst hX
  show G X M 0 [some (.int (jI (a))), some (.int (jI (b)))] []
  refine g_iload_n C dX8_pagesFor_0 rfl ?_
  refine g_iconst C dX8_pagesFor_1 ?_
  refine g_icmp_ge (tgt := 9) C dX8_pagesFor_2 rfl (by omega) (by omega) (fun h2 => ?_) (fun h2 => ?_)
  · refine g_iload_n C dX8_pagesFor_9 rfl ?_
    refine g_iload_n C dX8_pagesFor_10 rfl ?_
    refine g_iadd C dX8_pagesFor_11 ?_
    refine g_iconst C dX8_pagesFor_12 ?_
    refine g_isub C dX8_pagesFor_13 ?_
    refine g_iload_n C dX8_pagesFor_14 rfl ?_
    show G X _ 15 _ _
    refine g_idiv C dX8_pagesFor_15 (by omega) (by omega) ?_
    refine g_iret C hR dX8_pagesFor_16 ?_
    exact ⟨rfl, rfl⟩
  · omega
theorem gc_pagesFor {X : z_X} {cc : ByteArray} {own : String} {ret : Option FieldType} {dC nC : Nat} {M : zM} {pc : Nat} {lv : List (Option Value)} {st : List Value} (C : Cx cc own ret dC nC X) (hdep : 2 ≤ dC) {idx : Nat} (hl0 : Cond.methodLink own idx yX8_pagesFor ∈ tT) (hcat : (st.map fun v => v.category).sum ≤ 8) (hlen : lv.length = nC) (hdec : decode cc pc = .ok (.invokestatic idx, 3)) (a b : Int) (ha : 0 ≤ a ∧ a ≤ 100000) (hb : 1 ≤ b ∧ b ≤ 1000)  (kk : G X M (pc + 3) lv (.int (jI (pgs a b)) :: st)) : G X M pc lv (.int (jI (b)) :: .int (jI (a)) :: st) := by
  refine g_callS (k := 2) C (c_pagesFor (zL X) a b ha hb M ) mfX8_pagesFor hl0 ⟨rfl, by decide +kernel, by decide +kernel, by decide +kernel⟩ ⟨hdep, by decide⟩ rfl rfl rfl hcat hlen hdec (fun v M' h => ?_)
  obtain ⟨rfl, rfl⟩ := h
  exact kk
theorem gc_pagesForN {X : z_X} {cc : ByteArray} {own : String} {ret : Option FieldType} {dC nC : Nat} {M : zM} {pc : Nat} {lv : List (Option Value)} {st : List Value} (C : Cx cc own ret dC nC X) (hdep : 2 ≤ dC) {idx : Nat} (hl0 : ∀ U, z_N U → va_Nw (.methodLinkNest own idx yX8_pagesFor RX8) U) (hcat : (st.map fun v => v.category).sum ≤ 8) (hlen : lv.length = nC) (hdec : decode cc pc = .ok (.invokestatic idx, 3)) (a b : Int) (ha : 0 ≤ a ∧ a ≤ 100000) (hb : 1 ≤ b ∧ b ≤ 1000)  (kk : G X M (pc + 3) lv (.int (jI (pgs a b)) :: st)) : G X M pc lv (.int (jI (b)) :: .int (jI (a)) :: st) := by
  refine g_callSN (k := 2) C (c_pagesFor (zL X) a b ha hb M ) mfX8_pagesFor hl0 ⟨rfl, by decide +kernel, by decide +kernel, by decide +kernel⟩ ⟨hdep, by decide⟩ rfl rfl rfl hcat hlen hdec (fun v M' h => ?_)
  obtain ⟨rfl, rfl⟩ := h
  exact kk
set_option maxHeartbeats 4000000 in
set_option maxRecDepth 10000 in
theorem c_weightOf (l : Launch) {r : Nat} (hr : r < 20) {L : List (Int × Int)} (i : Nat) (hi : i < L.length) (M : zM) (hL : zRow M r L) (hb : zIn L) : Mt l 2 yX8_weightOf cX8_weightOf 4 (some .int) (fun ad => [.ref (ad (3 * r)), .int (jI ((i : Int))), .int (jI (0))]) M (fun _ vv M' => vv = some (.int (jI ((kA L i + 999) * 120 + (i : Int)))) ∧ M' = M) := by
  refine Mt.of (fun ad => [some (.ref (ad (3 * r))), some (.int (jI ((i : Int)))), some (.int (jI (0))), none]) (by decide +kernel) (fun _ => rfl) (fun _ => rfl) (fun _ => Nat.le_of_ble_eq_true rfl) fun X hX C hR => ?_
  subst hX
  show G X M 0 [some (.ref ((zA X) (3 * r))), some (.int (jI ((i : Int)))), some (.int (jI (0))), none] []
  refine g_aload_n C dX8_weightOf_0 rfl ?_
  refine g_iload_n C dX8_weightOf_1 rfl ?_
  refine gc_Row_keyAt C (by decide) tw_431 (Nat.le_of_ble_eq_true rfl) rfl dX8_weightOf_2 hr i hi hL (?_)
  refine g_istore_n C dX8_weightOf_5 (Nat.le_of_ble_eq_true rfl) ?_
  show G X _ 6 [_, _, _, _] _
  refine g_iload_n C dX8_weightOf_6 rfl ?_
  refine g_if_eq (tgt := 15) C dX8_weightOf_7 rfl (by omega) (fun h7 => ?_) (fun h7 => ?_)
  · refine g_iload_n C dX8_weightOf_15 rfl ?_
    refine g_sipush C dX8_weightOf_16 rfl ?_
    refine g_iadd C dX8_weightOf_19 ?_
    refine g_bipush C dX8_weightOf_20 rfl ?_
    refine g_imul C dX8_weightOf_22 ?_
    refine g_iload_n C dX8_weightOf_23 rfl ?_
    show G X _ 24 _ _
    refine g_iadd C dX8_weightOf_24 ?_
    refine g_iret C hR dX8_weightOf_25 ?_
    exact ⟨rfl, rfl⟩
  · omega
theorem gc_weightOf {X : z_X} {cc : ByteArray} {own : String} {ret : Option FieldType} {dC nC : Nat} {M : zM} {pc : Nat} {lv : List (Option Value)} {st : List Value} (C : Cx cc own ret dC nC X) (hdep : 3 ≤ dC) {idx : Nat} (hl0 : Cond.methodLink own idx yX8_weightOf ∈ tT) (hcat : (st.map fun v => v.category).sum ≤ 8) (hlen : lv.length = nC) (hdec : decode cc pc = .ok (.invokestatic idx, 3)) {r : Nat} (hr : r < 20) {L : List (Int × Int)} (i : Nat) (hi : i < L.length) (hL : zRow M r L) (hb : zIn L) (kk : G X M (pc + 3) lv (.int (jI ((kA L i + 999) * 120 + (i : Int))) :: st)) : G X M pc lv (.int (jI (0)) :: .int (jI ((i : Int))) :: .ref (zA X (3 * r)) :: st) := by
  refine g_callS (k := 3) C (c_weightOf (zL X) hr i hi M hL hb) mfX8_weightOf hl0 ⟨rfl, by decide +kernel, by decide +kernel, by decide +kernel⟩ ⟨hdep, by decide⟩ rfl rfl rfl hcat hlen hdec (fun v M' h => ?_)
  obtain ⟨rfl, rfl⟩ := h
  exact kk
theorem gc_weightOfN {X : z_X} {cc : ByteArray} {own : String} {ret : Option FieldType} {dC nC : Nat} {M : zM} {pc : Nat} {lv : List (Option Value)} {st : List Value} (C : Cx cc own ret dC nC X) (hdep : 3 ≤ dC) {idx : Nat} (hl0 : ∀ U, z_N U → va_Nw (.methodLinkNest own idx yX8_weightOf RX8) U) (hcat : (st.map fun v => v.category).sum ≤ 8) (hlen : lv.length = nC) (hdec : decode cc pc = .ok (.invokestatic idx, 3)) {r : Nat} (hr : r < 20) {L : List (Int × Int)} (i : Nat) (hi : i < L.length) (hL : zRow M r L) (hb : zIn L) (kk : G X M (pc + 3) lv (.int (jI ((kA L i + 999) * 120 + (i : Int))) :: st)) : G X M pc lv (.int (jI (0)) :: .int (jI ((i : Int))) :: .ref (zA X (3 * r)) :: st) := by
  refine g_callSN (k := 3) C (c_weightOf (zL X) hr i hi M hL hb) mfX8_weightOf hl0 ⟨rfl, by decide +kernel, by decide +kernel, by decide +kernel⟩ ⟨hdep, by decide⟩ rfl rfl rfl hcat hlen hdec (fun v M' h => ?_)
  obtain ⟨rfl, rfl⟩ := h
  exact kk
set_option maxHeartbeats 4000000 in
set_option maxRecDepth 10000 in
theorem c_orderOf (l : Launch) {r : Nat} (hr : r < 20) {L : List (Int × Int)} (M : zM) (hL : zRow M r L) (hb : zIn L) : Mt l 2 yX8_orderOf cX8_orderOf 1 (some .int) (fun ad => [.ref (ad (3 * r))]) M (fun _ vv M' => vv = some (.int (jI ((if upB L = true then 1 else 0) + (if dnB L = true then 2 else 0)))) ∧ M' = M) := by
  refine Mt.of (fun ad => [some (.ref (ad (3 * r)))]) (by decide +kernel) (fun _ => rfl) (fun _ => rfl) (fun _ => Nat.le_of_ble_eq_true rfl) fun X hX C hR => ?_
  subst hX
  show G X M 0 [some (.ref ((zA X) (3 * r)))] []
  refine g_aload_n C dX8_orderOf_0 rfl ?_
  refine gc_Row_isUp C (by decide) tw_442 (Nat.le_of_ble_eq_true rfl) rfl dX8_orderOf_1 hr hL hb (?_)
  generalize hu : (if upB L = true then (1 : Int) else 0) = u
  have hu2 : u = 0 ∨ u = 1 := by rw [← hu]; by_cases q : upB L = true <;> simp [q]
  refine g_if_eq (tgt := 11) C dX8_orderOf_4 rfl (by omega) (fun h4 => ?_) (fun h4 => ?_)
  · refine g_iconst C dX8_orderOf_11 ?_
    refine g_aload_n C dX8_orderOf_12 rfl ?_
    refine gc_Row_isDown C (by decide) tw_446 (Nat.le_of_ble_eq_true rfl) rfl dX8_orderOf_13 hr hL hb (?_)
    generalize hv : (if dnB L = true then (1 : Int) else 0) = w
    have hv2 : (w = 0 ∧ (if dnB L = true then (2 : Int) else 0) = 0) ∨ (w = 1 ∧ (if dnB L = true then (2 : Int) else 0) = 2) := by rw [← hv]; by_cases q : dnB L = true <;> simp [q]
    refine g_if_eq (tgt := 23) C dX8_orderOf_16 rfl (by omega) (fun h16 => ?_) (fun h16 => ?_)
    · refine g_iconst C dX8_orderOf_23 ?_
      refine g_iadd C dX8_orderOf_24 ?_
      refine g_iret C hR dX8_orderOf_25 ?_
      refine ⟨?_, rfl⟩
      congr 3
      omega
    · refine g_iconst C dX8_orderOf_19 ?_
      refine g_goto (tgt := 24) C dX8_orderOf_20 rfl ?_
      show G X _ 24 _ _
      refine g_iadd C dX8_orderOf_24 ?_
      refine g_iret C hR dX8_orderOf_25 ?_
      refine ⟨?_, rfl⟩
      congr 3
      omega
  · refine g_iconst C dX8_orderOf_7 ?_
    refine g_goto (tgt := 12) C dX8_orderOf_8 rfl ?_
    show G X _ 12 _ _
    refine g_aload_n C dX8_orderOf_12 rfl ?_
    refine gc_Row_isDown C (by decide) tw_446 (Nat.le_of_ble_eq_true rfl) rfl dX8_orderOf_13 hr hL hb (?_)
    generalize hv : (if dnB L = true then (1 : Int) else 0) = w
    have hv2 : (w = 0 ∧ (if dnB L = true then (2 : Int) else 0) = 0) ∨ (w = 1 ∧ (if dnB L = true then (2 : Int) else 0) = 2) := by rw [← hv]; by_cases q : dnB L = true <;> simp [q]
    refine g_if_eq (tgt := 23) C dX8_orderOf_16 rfl (by omega) (fun h16 => ?_) (fun h16 => ?_)
    · refine g_iconst C dX8_orderOf_23 ?_
      refine g_iadd C dX8_orderOf_24 ?_
      refine g_iret C hR dX8_orderOf_25 ?_
      refine ⟨?_, rfl⟩
      congr 3
      omega
    · refine g_iconst C dX8_orderOf_19 ?_
      refine g_goto (tgt := 24) C dX8_orderOf_20 rfl ?_
      show G X _ 24 _ _
      refine g_iadd C dX8_orderOf_24 ?_
      refine g_iret C hR dX8_orderOf_25 ?_
      refine ⟨?_, rfl⟩
      congr 3
      omega
theorem gc_orderOf {X : z_X} {cc : ByteArray} {own : String} {ret : Option FieldType} {dC nC : Nat} {M : zM} {pc : Nat} {lv : List (Option Value)} {st : List Value} (C : Cx cc own ret dC nC X) (hdep : 3 ≤ dC) {idx : Nat} (hl0 : Cond.methodLink own idx yX8_orderOf ∈ tT) (hcat : (st.map fun v => v.category).sum ≤ 8) (hlen : lv.length = nC) (hdec : decode cc pc = .ok (.invokestatic idx, 3)) {r : Nat} (hr : r < 20) {L : List (Int × Int)} (hL : zRow M r L) (hb : zIn L) (kk : G X M (pc + 3) lv (.int (jI ((if upB L = true then 1 else 0) + (if dnB L = true then 2 else 0))) :: st)) : G X M pc lv (.ref (zA X (3 * r)) :: st) := by
  refine g_callS (k := 1) C (c_orderOf (zL X) hr M hL hb) mfX8_orderOf hl0 ⟨rfl, by decide +kernel, by decide +kernel, by decide +kernel⟩ ⟨hdep, by decide⟩ rfl rfl rfl hcat hlen hdec (fun v M' h => ?_)
  obtain ⟨rfl, rfl⟩ := h
  exact kk
set_option maxHeartbeats 4000000 in
set_option maxRecDepth 10000 in
theorem c_floorMod (l : Launch) (x y : Int) (hx : -2147483648 ≤ x ∧ x ≤ 2147483647) (hy : 0 < y ∧ y ≤ 1000000) (M : zM)  : Mt l 1 yJ9_floorMod_7cf53 cJ9_floorMod_7cf53 3 (some .int) (fun ad => [.int (jI (x)), .int (jI (y))]) M (fun _ vv M' => vv = some (.int (jI (x % y))) ∧ M' = M) := by
  refine Mt.of (fun ad => [some (.int (jI (x))), some (.int (jI (y))), none]) (by decide +kernel) (fun _ => rfl) (fun _ => rfl) (fun _ => Nat.le_of_ble_eq_true rfl) fun X hX C hR => ?_
  subst hX
  show G X M 0 [some (.int (jI (x))), some (.int (jI (y))), none] []
  refine g_iload_n C dJ9_floorMod_7cf53_0 rfl ?_
  refine g_iload_n C dJ9_floorMod_7cf53_1 rfl ?_
  refine g_iremR C dJ9_floorMod_7cf53_2 (jI_ne0 (by omega) (by omega)) ?_
  rw [jI_tmod hx (by omega)]
  refine g_istore_n C dJ9_floorMod_7cf53_3 (Nat.le_of_ble_eq_true rfl) ?_
  show G X _ 4 [_, _, _] _
  refine g_iload_n C dJ9_floorMod_7cf53_4 rfl ?_
  refine g_iload_n C dJ9_floorMod_7cf53_5 rfl ?_
  refine g_ixor C dJ9_floorMod_7cf53_6 ?_
  rw [← jI_of (jI x ^^^ jI y)]
  have hs := jI_xor_neg hx (show 0 < y ∧ y ≤ 2147483647 by omega)
  have hs2 := Int32.toInt_lt (jI x ^^^ jI y)
  have hs3 := Int32.le_toInt (jI x ^^^ jI y)
  have hp : 0 ≤ x → x.tmod y = x % y := fun q => Int.tmod_eq_emod_of_nonneg q
  have hn : x < 0 → x % y = if x.tmod y = 0 then 0 else x.tmod y + y := fun q => z_tmod q hy.1
  have hb1 : -y < x.tmod y ∧ x.tmod y < y := tmod_bounds hy.1
  refine g_if_ge (tgt := 18) C dJ9_floorMod_7cf53_7 rfl (by omega) (fun h7 => ?_) (fun h7 => ?_)
  · refine g_iload_n C dJ9_floorMod_7cf53_18 rfl ?_
    refine g_iret C hR dJ9_floorMod_7cf53_19 ?_
    refine ⟨?_, rfl⟩
    congr 3
    first | (rw [hp (by omega)]) | (rw [hn (by omega)]; by_cases q : x.tmod y = 0 <;> simp [q] <;> omega)
  · refine g_iload_n C dJ9_floorMod_7cf53_10 rfl ?_
    refine g_if_eq (tgt := 18) C dJ9_floorMod_7cf53_11 rfl (by omega) (fun h11 => ?_) (fun h11 => ?_)
    · refine g_iload_n C dJ9_floorMod_7cf53_18 rfl ?_
      refine g_iret C hR dJ9_floorMod_7cf53_19 ?_
      refine ⟨?_, rfl⟩
      congr 3
      first | (rw [hp (by omega)]) | (rw [hn (by omega)]; by_cases q : x.tmod y = 0 <;> simp [q] <;> omega)
    · refine g_iload_n C dJ9_floorMod_7cf53_14 rfl ?_
      refine g_iload_n C dJ9_floorMod_7cf53_15 rfl ?_
      refine g_iadd C dJ9_floorMod_7cf53_16 ?_
      refine g_iret C hR dJ9_floorMod_7cf53_17 ?_
      refine ⟨?_, rfl⟩
      congr 3
      first | (rw [hp (by omega)]) | (rw [hn (by omega)]; by_cases q : x.tmod y = 0 <;> simp [q] <;> omega)
theorem gc_floorMod {X : z_X} {cc : ByteArray} {own : String} {ret : Option FieldType} {dC nC : Nat} {M : zM} {pc : Nat} {lv : List (Option Value)} {st : List Value} (C : Cx cc own ret dC nC X) (hdep : 2 ≤ dC) {idx : Nat} (hl0 : Cond.methodLink own idx yJ9_floorMod_7cf53 ∈ tT) (hcat : (st.map fun v => v.category).sum ≤ 8) (hlen : lv.length = nC) (hdec : decode cc pc = .ok (.invokestatic idx, 3)) (x y : Int) (hx : -2147483648 ≤ x ∧ x ≤ 2147483647) (hy : 0 < y ∧ y ≤ 1000000)  (kk : G X M (pc + 3) lv (.int (jI (x % y)) :: st)) : G X M pc lv (.int (jI (y)) :: .int (jI (x)) :: st) := by
  refine g_callS (k := 2) C (c_floorMod (zL X) x y hx hy M ) mfJ9_floorMod_7cf53 hl0 ⟨rfl, by decide +kernel, by decide +kernel, by decide +kernel⟩ ⟨hdep, by decide⟩ rfl rfl rfl hcat hlen hdec (fun v M' h => ?_)
  obtain ⟨rfl, rfl⟩ := h
  exact kk
