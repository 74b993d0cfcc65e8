/-! methods of Math, of a row, of a list -/
set_option maxHeartbeats 4000000 in
set_option maxRecDepth 10000 in
theorem c_max (l : Launch) (a b : Int) (ha : -2147483648 ≤ a ∧ a ≤ 2147483647) (hb : -2147483648 ≤ b ∧ b ≤ 2147483647) (M : zM)  : Mt l 1 yJ9_max_7cf53 cJ9_max_7cf53 2 (some .int) (fun ad => [.int (jI (a)), .int (jI (b))]) M (fun _ vv M' => vv = some (.int (jI (if b ≤ a then a else b))) ∧ M' = M) := by
  refine Mt.of (fun ad => [some (.int (jI (a))), some (.int (jI (b)))]) (by decide +kernel) (fun _ => rfl) (fun _ => rfl) (fun _ => Nat.le_of_ble_eq_true rfl) fun X hX C hR => ?_
  subst hX
  show G X M 0 [some (.int (jI (a))), some (.int (jI (b)))] []
  refine g_iload_n C dJ9_max_7cf53_0 rfl ?_
  refine g_iload_n C dJ9_max_7cf53_1 rfl ?_
  refine g_icmp_lt (tgt := 9) C dJ9_max_7cf53_2 rfl (by omega) (by omega) (fun h2 => ?_) (fun h2 => ?_)
  · refine g_iload_n C dJ9_max_7cf53_9 rfl ?_
    refine g_iret C hR dJ9_max_7cf53_10 ?_
    refine ⟨?_, rfl⟩
    first | rw [if_pos (by omega)] | rw [if_neg (by omega)]
  · refine g_iload_n C dJ9_max_7cf53_5 rfl ?_
    refine g_goto (tgt := 10) C dJ9_max_7cf53_6 rfl ?_
    show G X _ 10 _ _
    refine g_iret C hR dJ9_max_7cf53_10 ?_
    refine ⟨?_, rfl⟩
    first | rw [if_pos (by omega)] | rw [if_neg (by omega)]
theorem gc_max {X : z_X} {cc : ByteArray} {own : String} {ret : Option FieldType} {dC nC : Nat} {M : zM} {pc : Nat} {lv : List (Option Value)} {st : List Value} (C : Cx cc own ret dC nC X) (hdep : 2 ≤ dC) {idx : Nat} (hl0 : Cond.methodLink own idx yJ9_max_7cf53 ∈ tT) (hcat : (st.map fun v => v.category).sum ≤ 8) (hlen : lv.length = nC) (hdec : decode cc pc = .ok (.invokestatic idx, 3)) (a b : Int) (ha : -2147483648 ≤ a ∧ a ≤ 2147483647) (hb : -2147483648 ≤ b ∧ b ≤ 2147483647)  (kk : G X M (pc + 3) lv (.int (jI (if b ≤ a then a else b)) :: st)) : G X M pc lv (.int (jI (b)) :: .int (jI (a)) :: st) := by
  refine g_callS (k := 2) C (c_max (zL X) a b ha hb M ) mfJ9_max_7cf53 hl0 ⟨rfl, by decide +kernel, by decide +kernel, by decide +kernel⟩ ⟨hdep, by decide⟩ rfl rfl rfl hcat hlen hdec (fun v M' h => ?_)
  obtain ⟨rfl, rfl⟩ := h
  exact kk
set_option maxHeartbeats 4000000 in
set_option maxRecDepth 10000 in
theorem c_min (l : Launch) (a b : Int) (ha : -2147483648 ≤ a ∧ a ≤ 2147483647) (hb : -2147483648 ≤ b ∧ b ≤ 2147483647) (M : zM)  : Mt l 1 yJ9_min_7cf53 cJ9_min_7cf53 2 (some .int) (fun ad => [.int (jI (a)), .int (jI (b))]) M (fun _ vv M' => vv = some (.int (jI (if a ≤ b then a else b))) ∧ M' = M) := by
  refine Mt.of (fun ad => [some (.int (jI (a))), some (.int (jI (b)))]) (by decide +kernel) (fun _ => rfl) (fun _ => rfl) (fun _ => Nat.le_of_ble_eq_true rfl) fun X hX C hR => ?_
  subst hX
  show G X M 0 [some (.int (jI (a))), some (.int (jI (b)))] []
  refine g_iload_n C dJ9_min_7cf53_0 rfl ?_
  refine g_iload_n C dJ9_min_7cf53_1 rfl ?_
  refine g_icmp_gt (tgt := 9) C dJ9_min_7cf53_2 rfl (by omega) (by omega) (fun h2 => ?_) (fun h2 => ?_)
  · refine g_iload_n C dJ9_min_7cf53_9 rfl ?_
    refine g_iret C hR dJ9_min_7cf53_10 ?_
    refine ⟨?_, rfl⟩
    first | rw [if_pos (by omega)] | rw [if_neg (by omega)]
  · refine g_iload_n C dJ9_min_7cf53_5 rfl ?_
    refine g_goto (tgt := 10) C dJ9_min_7cf53_6 rfl ?_
    show G X _ 10 _ _
    refine g_iret C hR dJ9_min_7cf53_10 ?_
    refine ⟨?_, rfl⟩
    first | rw [if_pos (by omega)] | rw [if_neg (by omega)]
theorem gc_min {X : z_X} {cc : ByteArray} {own : String} {ret : Option FieldType} {dC nC : Nat} {M : zM} {pc : Nat} {lv : List (Option Value)} {st : List Value} (C : Cx cc own ret dC nC X) (hdep : 2 ≤ dC) {idx : Nat} (hl0 : Cond.methodLink own idx yJ9_min_7cf53 ∈ tT) (hcat : (st.map fun v => v.category).sum ≤ 8) (hlen : lv.length = nC) (hdec : decode cc pc = .ok (.invokestatic idx, 3)) (a b : Int) (ha : -2147483648 ≤ a ∧ a ≤ 2147483647) (hb : -2147483648 ≤ b ∧ b ≤ 2147483647)  (kk : G X M (pc + 3) lv (.int (jI (if a ≤ b then a else b)) :: st)) : G X M pc lv (.int (jI (b)) :: .int (jI (a)) :: st) := by
  refine g_callS (k := 2) C (c_min (zL X) a b ha hb M ) mfJ9_min_7cf53 hl0 ⟨rfl, by decide +kernel, by decide +kernel, by decide +kernel⟩ ⟨hdep, by decide⟩ rfl rfl rfl hcat hlen hdec (fun v M' h => ?_)
  obtain ⟨rfl, rfl⟩ := h
  exact kk
set_option maxHeartbeats 4000000 in
set_option maxRecDepth 10000 in
theorem c_abs (l : Launch) (a : Int) (ha : -2147483647 ≤ a ∧ a ≤ 2147483647) (M : zM)  : Mt l 1 yJ9_abs_0f7a4 cJ9_abs_0f7a4 1 (some .int) (fun ad => [.int (jI (a))]) M (fun _ vv M' => vv = some (.int (jI (if a < 0 then -a else a))) ∧ M' = M) := by
  refine Mt.of (fun ad => [some (.int (jI (a)))]) (by decide +kernel) (fun _ => rfl) (fun _ => rfl) (fun _ => Nat.le_of_ble_eq_true rfl) fun X hX C hR => ?_
  subst hX
  show G X M 0 [some (.int (jI (a)))] []
  refine g_iload_n C dJ9_abs_0f7a4_0 rfl ?_
  refine g_if_ge (tgt := 9) C dJ9_abs_0f7a4_1 rfl (by omega) (fun h1 => ?_) (fun h1 => ?_)
  · refine g_iload_n C dJ9_abs_0f7a4_9 rfl ?_
    refine g_iret C hR dJ9_abs_0f7a4_10 ?_
    refine ⟨?_, rfl⟩
    first | rw [if_pos (by omega)] | rw [if_neg (by omega)]
  · refine g_iload_n C dJ9_abs_0f7a4_4 rfl ?_
    refine g_ineg C dJ9_abs_0f7a4_5 ?_
    refine g_goto (tgt := 10) C dJ9_abs_0f7a4_6 rfl ?_
    show G X _ 10 _ _
    refine g_iret C hR dJ9_abs_0f7a4_10 ?_
    refine ⟨?_, rfl⟩
    first | rw [if_pos (by omega)] | rw [if_neg (by omega)]
theorem gc_abs {X : z_X} {cc : ByteArray} {own : String} {ret : Option FieldType} {dC nC : Nat} {M : zM} {pc : Nat} {lv : List (Option Value)} {st : List Value} (C : Cx cc own ret dC nC X) (hdep : 2 ≤ dC) {idx : Nat} (hl0 : Cond.methodLink own idx yJ9_abs_0f7a4 ∈ tT) (hcat : (st.map fun v => v.category).sum ≤ 8) (hlen : lv.length = nC) (hdec : decode cc pc = .ok (.invokestatic idx, 3)) (a : Int) (ha : -2147483647 ≤ a ∧ a ≤ 2147483647)  (kk : G X M (pc + 3) lv (.int (jI (if a < 0 then -a else a)) :: st)) : G X M pc lv (.int (jI (a)) :: st) := by
  refine g_callS (k := 1) C (c_abs (zL X) a ha M ) mfJ9_abs_0f7a4 hl0 ⟨rfl, by decide +kernel, by decide +kernel, by decide +kernel⟩ ⟨hdep, by decide⟩ rfl rfl rfl hcat hlen hdec (fun v M' h => ?_)
  obtain ⟨rfl, rfl⟩ := h
  exact kk
set_option maxHeartbeats 4000000 in
set_option maxRecDepth 10000 in
theorem c_Row_empty (l : Launch) {r : Nat} (hr : r < 20) (M : zM)  : Mt l 1 yX5_empty cX5_empty 1 none (fun ad => [.ref (ad (3 * r))]) M (fun _ vv M' => vv = none ∧ (zRow M' r [] ∧ zFr M M' r)) := by
  refine Mt.of (fun ad => [some (.ref (ad (3 * r)))]) (by decide +kernel) (fun _ => rfl) (fun _ => rfl) (fun _ => Nat.le_of_ble_eq_true rfl) fun X hX C hR => ?_
  subst hX
  show G X M 0 [some (.ref ((zA X) (3 * r)))] []
  refine g_aload_n C dX5_empty_0 rfl ?_
  refine g_iconst C dX5_empty_1 ?_
  refine gp_Row_count C (by omega) tw_147 dX5_empty_2 ?_
  refine g_vret C hR dX5_empty_5 ?_
  refine ⟨rfl, ⟨by rw [zu_s]; rfl, by simp, fun i hi => by simp at hi⟩, fun o h0 h1 h2 => zu_o _ _ _ _ h0⟩
theorem gc_Row_empty {X : z_X} {cc : ByteArray} {own : String} {ret : Option FieldType} {dC nC : Nat} {M : zM} {pc : Nat} {lv : List (Option Value)} {st : List Value} (C : Cx cc own ret dC nC X) (hdep : 2 ≤ dC) {idx : Nat} (hl0 : Cond.methodLink own idx yX5_empty ∈ tT) (hcat : (st.map fun v => v.category).sum ≤ 8) (hlen : lv.length = nC) (hdec : decode cc pc = .ok (.invokevirtual idx, 3)) {r : Nat} (hr : r < 20)  (kk : ∀ M' : zM, (zRow M' r [] ∧ zFr M M' r) → G X M' (pc + 3) lv st) : G X M pc lv (.ref (zA X (3 * r)) :: st) := by
  refine g_callV (k := 0) (o := 3 * r) C (c_Row_empty (zL X) hr M ) mfX5_empty hl0 ⟨rfl, by decide +kernel, by decide +kernel, by decide +kernel⟩ ⟨hdep, by decide⟩ (by omega) (fun _ _ _ _ => ze_row (by omega)) rfl rfl rfl rfl hcat hlen hdec (fun v M' h => ?_)
  obtain ⟨rfl, h⟩ := h
  exact kk M' h
set_option maxHeartbeats 4000000 in
set_option maxRecDepth 10000 in
theorem c_Row_count (l : Launch) {r : Nat} (hr : r < 20) {L : List (Int × Int)} (M : zM) (hL : zRow M r L) : Mt l 1 yX5_count cX5_count 1 (some .int) (fun ad => [.ref (ad (3 * r))]) M (fun _ vv M' => vv = some (.int (jI ((L.length : Int)))) ∧ M' = M) := by
  refine Mt.of (fun ad => [some (.ref (ad (3 * r)))]) (by decide +kernel) (fun _ => rfl) (fun _ => rfl) (fun _ => Nat.le_of_ble_eq_true rfl) fun X hX C hR => ?_
  subst hX
  show G X M 0 [some (.ref ((zA X) (3 * r)))] []
  refine g_aload_n C dX5_count_0 rfl ?_
  refine gf_Row_count C (by omega) tw_147 dX5_count_1 ?_
  refine g_iret C hR dX5_count_4 ?_
  exact ⟨by rw [hL.1], rfl⟩
theorem gc_Row_count {X : z_X} {cc : ByteArray} {own : String} {ret : Option FieldType} {dC nC : Nat} {M : zM} {pc : Nat} {lv : List (Option Value)} {st : List Value} (C : Cx cc own ret dC nC X) (hdep : 2 ≤ dC) {idx : Nat} (hl0 : Cond.methodLink own idx yX5_count ∈ tT) (hcat : (st.map fun v => v.category).sum ≤ 8) (hlen : lv.length = nC) (hdec : decode cc pc = .ok (.invokevirtual idx, 3)) {r : Nat} (hr : r < 20) {L : List (Int × Int)} (hL : zRow M r L) (kk : G X M (pc + 3) lv (.int (jI ((L.length : Int))) :: st)) : G X M pc lv (.ref (zA X (3 * r)) :: st) := by
  refine g_callV (k := 0) (o := 3 * r) C (c_Row_count (zL X) hr M hL) mfX5_count hl0 ⟨rfl, by decide +kernel, by decide +kernel, by decide +kernel⟩ ⟨hdep, by decide⟩ (by omega) (fun _ _ _ _ => ze_row (by omega)) rfl rfl rfl rfl hcat hlen hdec (fun v M' h => ?_)
  obtain ⟨rfl, rfl⟩ := h
  exact kk
set_option maxHeartbeats 4000000 in
set_option maxRecDepth 10000 in
theorem c_Row_has (l : Launch) {r : Nat} (hr : r < 20) {L : List (Int × Int)} (x : Int) (hx : -2147483648 ≤ x ∧ x ≤ 2147483647) (M : zM) (hL : zRow M r L) : Mt l 1 yX5_has cX5_has 2 (some .boolean) (fun ad => [.ref (ad (3 * r)), .int (jI (x))]) M (fun _ vv M' => vv = some (.int (jI (if 0 ≤ x ∧ x < (L.length : Int) then 1 else 0))) ∧ M' = M) := by
  refine Mt.of (fun ad => [some (.ref (ad (3 * r))), some (.int (jI (x)))]) (by decide +kernel) (fun _ => rfl) (fun _ => rfl) (fun _ => Nat.le_of_ble_eq_true rfl) fun X hX C hR => ?_
  subst hX
  show G X M 0 [some (.ref ((zA X) (3 * r))), some (.int (jI (x)))] []
  obtain ⟨hc, hc2, hc3⟩ := hL
  refine g_iload_n C dX5_has_0 rfl ?_
  refine g_if_lt (tgt := 16) C dX5_has_1 rfl (by omega) (fun h1 => ?_) (fun h1 => ?_)
  · refine g_iconst C dX5_has_16 ?_
    refine g_zret C hR (by omega) dX5_has_17 ?_
    refine ⟨?_, rfl⟩
    first | rw [if_pos (by omega)] | rw [if_neg (by omega)]
  · refine g_iload_n C dX5_has_4 rfl ?_
    refine g_aload_n C dX5_has_5 rfl ?_
    refine gf_Row_count C (by omega) tw_147 dX5_has_6 ?_
    refine g_icmp_ge (tgt := 16) C dX5_has_9 rfl (by omega) (by omega) (fun h9 => ?_) (fun h9 => ?_)
    · refine g_iconst C dX5_has_16 ?_
      refine g_zret C hR (by omega) dX5_has_17 ?_
      refine ⟨?_, rfl⟩
      first | rw [if_pos (by omega)] | rw [if_neg (by omega)]
    · refine g_iconst C dX5_has_12 ?_
      refine g_goto (tgt := 17) C dX5_has_13 rfl ?_
      show G X _ 17 _ _
      refine g_zret C hR (by omega) dX5_has_17 ?_
      refine ⟨?_, rfl⟩
      first | rw [if_pos (by omega)] | rw [if_neg (by omega)]
theorem gc_Row_has {X : z_X} {cc : ByteArray} {own : String} {ret : Option FieldType} {dC nC : Nat} {M : zM} {pc : Nat} {lv : List (Option Value)} {st : List Value} (C : Cx cc own ret dC nC X) (hdep : 2 ≤ dC) {idx : Nat} (hl0 : Cond.methodLink own idx yX5_has ∈ tT) (hcat : (st.map fun v => v.category).sum ≤ 8) (hlen : lv.length = nC) (hdec : decode cc pc = .ok (.invokevirtual idx, 3)) {r : Nat} (hr : r < 20) {L : List (Int × Int)} (x : Int) (hx : -2147483648 ≤ x ∧ x ≤ 2147483647) (hL : zRow M r L) (kk : G X M (pc + 3) lv (.int (jI (if 0 ≤ x ∧ x < (L.length : Int) then 1 else 0)) :: st)) : G X M pc lv (.int (jI (x)) :: .ref (zA X (3 * r)) :: st) := by
  refine g_callV (k := 1) (o := 3 * r) C (c_Row_has (zL X) hr x hx M hL) mfX5_has hl0 ⟨rfl, by decide +kernel, by decide +kernel, by decide +kernel⟩ ⟨hdep, by decide⟩ (by omega) (fun _ _ _ _ => ze_row (by omega)) rfl rfl rfl rfl hcat hlen hdec (fun v M' h => ?_)
  obtain ⟨rfl, rfl⟩ := h
  exact kk
set_option maxHeartbeats 4000000 in
set_option maxRecDepth 10000 in
theorem c_Row_keyAt (l : Launch) {r : Nat} (hr : r < 20) {L : List (Int × Int)} (i : Nat) (hi : i < L.length) (M : zM) (hL : zRow M r L) : Mt l 1 yX5_keyAt cX5_keyAt 2 (some .int) (fun ad => [.ref (ad (3 * r)), .int (jI ((i : Int)))]) M (fun _ vv M' => vv = some (.int (jI (kA L i))) ∧ M' = M) := by
  refine Mt.of (fun ad => [some (.ref (ad (3 * r))), some (.int (jI ((i : Int))))]) (by decide +kernel) (fun _ => rfl) (fun _ => rfl) (fun _ => Nat.le_of_ble_eq_true rfl) fun X hX C hR => ?_
  subst hX
  show G X M 0 [some (.ref ((zA X) (3 * r))), some (.int (jI ((i : Int))))] []
  obtain ⟨hc, hc2, hc3⟩ := hL
  refine g_iload_n C dX5_keyAt_0 rfl ?_
  refine g_if_lt (tgt := 21) C dX5_keyAt_1 rfl (by omega) (fun h1 => ?_) (fun h1 => ?_)
  · omega
  · refine g_iload_n C dX5_keyAt_4 rfl ?_
    refine g_aload_n C dX5_keyAt_5 rfl ?_
    refine gf_Row_count C (by omega) tw_147 dX5_keyAt_6 ?_
    refine g_icmp_ge (tgt := 21) C dX5_keyAt_9 rfl (by omega) (by omega) (fun h9 => ?_) (fun h9 => ?_)
    · omega
    · refine g_aload_n C dX5_keyAt_12 rfl ?_
      refine gf_Row_keys C (by omega) tw_145 dX5_keyAt_13 ?_
      refine g_iload_n C dX5_keyAt_16 rfl ?_
      refine ga_keys C (by omega) _ (by omega) rfl dX5_keyAt_17 ?_
      refine g_goto (tgt := 22) C dX5_keyAt_18 rfl ?_
      show G X _ 22 _ _
      refine g_iret C hR dX5_keyAt_22 ?_
      exact ⟨by rw [(hc3 i hi).1], rfl⟩
theorem gc_Row_keyAt {X : z_X} {cc : ByteArray} {own : String} {ret : Option FieldType} {dC nC : Nat} {M : zM} {pc : Nat} {lv : List (Option Value)} {st : List Value} (C : Cx cc own ret dC nC X) (hdep : 2 ≤ dC) {idx : Nat} (hl0 : Cond.methodLink own idx yX5_keyAt ∈ tT) (hcat : (st.map fun v => v.category).sum ≤ 8) (hlen : lv.length = nC) (hdec : decode cc pc = .ok (.invokevirtual idx, 3)) {r : Nat} (hr : r < 20) {L : List (Int × Int)} (i : Nat) (hi : i < L.length) (hL : zRow M r L) (kk : G X M (pc + 3) lv (.int (jI (kA L i)) :: st)) : G X M pc lv (.int (jI ((i : Int))) :: .ref (zA X (3 * r)) :: st) := by
  refine g_callV (k := 1) (o := 3 * r) C (c_Row_keyAt (zL X) hr i hi M hL) mfX5_keyAt hl0 ⟨rfl, by decide +kernel, by decide +kernel, by decide +kernel⟩ ⟨hdep, by decide⟩ (by omega) (fun _ _ _ _ => ze_row (by omega)) rfl rfl rfl rfl hcat hlen hdec (fun v M' h => ?_)
  obtain ⟨rfl, rfl⟩ := h
  exact kk
set_option maxHeartbeats 4000000 in
set_option maxRecDepth 10000 in
theorem c_Row_markAt (l : Launch) {r : Nat} (hr : r < 20) {L : List (Int × Int)} (i : Nat) (hi : i < L.length) (M : zM) (hL : zRow M r L) : Mt l 1 yX5_markAt cX5_markAt 2 (some .int) (fun ad => [.ref (ad (3 * r)), .int (jI ((i : Int)))]) M (fun _ vv M' => vv = some (.int (jI (mA L i))) ∧ M' = M) := by
  refine Mt.of (fun ad => [some (.ref (ad (3 * r))), some (.int (jI ((i : Int))))]) (by decide +kernel) (fun _ => rfl) (fun _ => rfl) (fun _ => Nat.le_of_ble_eq_true rfl) fun X hX C hR => ?_
  subst hX
  show G X M 0 [some (.ref ((zA X) (3 * r))), some (.int (jI ((i : Int))))] []
  obtain ⟨hc, hc2, hc3⟩ := hL
  refine g_iload_n C dX5_markAt_0 rfl ?_
  refine g_if_lt (tgt := 21) C dX5_markAt_1 rfl (by omega) (fun h1 => ?_) (fun h1 => ?_)
  · omega
  · refine g_iload_n C dX5_markAt_4 rfl ?_
    refine g_aload_n C dX5_markAt_5 rfl ?_
    refine gf_Row_count C (by omega) tw_147 dX5_markAt_6 ?_
    refine g_icmp_ge (tgt := 21) C dX5_markAt_9 rfl (by omega) (by omega) (fun h9 => ?_) (fun h9 => ?_)
    · omega
    · refine g_aload_n C dX5_markAt_12 rfl ?_
      refine gf_Row_marks C (by omega) tw_146 dX5_markAt_13 ?_
      refine g_iload_n C dX5_markAt_16 rfl ?_
      refine ga_marks C (by omega) _ (by omega) rfl dX5_markAt_17 ?_
      refine g_goto (tgt := 22) C dX5_markAt_18 rfl ?_
      show G X _ 22 _ _
      refine g_iret C hR dX5_markAt_22 ?_
      exact ⟨by rw [(hc3 i hi).2], rfl⟩
theorem gc_Row_markAt {X : z_X} {cc : ByteArray} {own : String} {ret : Option FieldType} {dC nC : Nat} {M : zM} {pc : Nat} {lv : List (Option Value)} {st : List Value} (C : Cx cc own ret dC nC X) (hdep : 2 ≤ dC) {idx : Nat} (hl0 : Cond.methodLink own idx yX5_markAt ∈ tT) (hcat : (st.map fun v => v.category).sum ≤ 8) (hlen : lv.length = nC) (hdec : decode cc pc = .ok (.invokevirtual idx, 3)) {r : Nat} (hr : r < 20) {L : List (Int × Int)} (i : Nat) (hi : i < L.length) (hL : zRow M r L) (kk : G X M (pc + 3) lv (.int (jI (mA L i)) :: st)) : G X M pc lv (.int (jI ((i : Int))) :: .ref (zA X (3 * r)) :: st) := by
  refine g_callV (k := 1) (o := 3 * r) C (c_Row_markAt (zL X) hr i hi M hL) mfX5_markAt hl0 ⟨rfl, by decide +kernel, by decide +kernel, by decide +kernel⟩ ⟨hdep, by decide⟩ (by omega) (fun _ _ _ _ => ze_row (by omega)) rfl rfl rfl rfl hcat hlen hdec (fun v M' h => ?_)
  obtain ⟨rfl, rfl⟩ := h
  exact kk
set_option maxHeartbeats 4000000 in
set_option maxRecDepth 10000 in
theorem c_Row_add (l : Launch) {r : Nat} (hr : r < 20) {L : List (Int × Int)} (k m : Int) (hs : L.length < 120) (M : zM) (hL : zRow M r L) : Mt l 1 yX5_add cX5_add 3 none (fun ad => [.ref (ad (3 * r)), .int (jI (k)), .int (jI (m))]) M (fun _ vv M' => vv = none ∧ (zRow M' r (L ++ [(k, m)]) ∧ zFr M M' r)) := by
  refine Mt.of (fun ad => [some (.ref (ad (3 * r))), some (.int (jI (k))), some (.int (jI (m)))]) (by decide +kernel) (fun _ => rfl) (fun _ => rfl) (fun _ => Nat.le_of_ble_eq_true rfl) fun X hX C hR => ?_
  subst hX
  show G X M 0 [some (.ref ((zA X) (3 * r))), some (.int (jI (k))), some (.int (jI (m)))] []
  obtain ⟨hc, hc2, hc3⟩ := id hL
  refine g_aload_n C dX5_add_0 rfl ?_
  refine gf_Row_count C (by omega) tw_147 dX5_add_1 ?_
  refine g_bipush C dX5_add_4 rfl ?_
  refine g_icmp_ge (tgt := 39) C dX5_add_6 rfl (by omega) (by omega) (fun h6 => ?_) (fun h6 => ?_)
  · omega
  · refine g_aload_n C dX5_add_9 rfl ?_
    refine gf_Row_keys C (by omega) tw_145 dX5_add_10 ?_
    refine g_aload_n C dX5_add_13 rfl ?_
    refine gf_Row_count C (by omega) tw_147 dX5_add_14 ?_
    rw [hc]
    refine g_iload_n C dX5_add_17 rfl ?_
    refine gs_keys C (by omega) _ (by omega) rfl dX5_add_18 ?_
    show G X _ 19 _ _
    refine g_aload_n C dX5_add_19 rfl ?_
    refine gf_Row_marks C (by omega) tw_146 dX5_add_20 ?_
    refine g_aload_n C dX5_add_23 rfl ?_
    refine gf_Row_count C (by omega) tw_147 dX5_add_24 ?_
    rw [zu_o _ _ _ _ (by omega), hc]
    refine g_iload_n C dX5_add_27 rfl ?_
    refine gs_marks C (by omega) _ (by omega) rfl dX5_add_28 ?_
    show G X _ 29 _ _
    refine g_aload_n C dX5_add_29 rfl ?_
    refine g_dup C dX5_add_30 rfl ?_
    refine gf_Row_count C (by omega) tw_147 dX5_add_31 ?_
    rw [zu_o _ _ _ _ (by omega), zu_o _ _ _ _ (by omega), hc]
    refine g_iconst C dX5_add_34 ?_
    refine g_iadd C dX5_add_35 ?_
    refine gp_Row_count C (by omega) tw_147 dX5_add_36 ?_
    show G X _ 39 _ _
    refine g_vret C hR dX5_add_39 ?_
    exact ⟨rfl, hL.push hs k m, zFr.push⟩
theorem gc_Row_add {X : z_X} {cc : ByteArray} {own : String} {ret : Option FieldType} {dC nC : Nat} {M : zM} {pc : Nat} {lv : List (Option Value)} {st : List Value} (C : Cx cc own ret dC nC X) (hdep : 2 ≤ dC) {idx : Nat} (hl0 : Cond.methodLink own idx yX5_add ∈ tT) (hcat : (st.map fun v => v.category).sum ≤ 8) (hlen : lv.length = nC) (hdec : decode cc pc = .ok (.invokevirtual idx, 3)) {r : Nat} (hr : r < 20) {L : List (Int × Int)} (k m : Int) (hs : L.length < 120) (hL : zRow M r L) (kk : ∀ M' : zM, (zRow M' r (L ++ [(k, m)]) ∧ zFr M M' r) → G X M' (pc + 3) lv st) : G X M pc lv (.int (jI (m)) :: .int (jI (k)) :: .ref (zA X (3 * r)) :: st) := by
  refine g_callV (k := 2) (o := 3 * r) C (c_Row_add (zL X) hr k m hs M hL) mfX5_add hl0 ⟨rfl, by decide +kernel, by decide +kernel, by decide +kernel⟩ ⟨hdep, by decide⟩ (by omega) (fun _ _ _ _ => ze_row (by omega)) rfl rfl rfl rfl hcat hlen hdec (fun v M' h => ?_)
  obtain ⟨rfl, h⟩ := h
  exact kk M' h
