/-! the sorter's small methods -/
set_option maxHeartbeats 4000000 in
set_option maxRecDepth 10000 in
theorem c_needMemory (l : Launch) (x : Int) (hx : 3 ≤ x ∧ x ≤ 12) (M : zM)  : Mt l 1 yX8_needMemory cX8_needMemory 1 none (fun ad => [.int (jI (x))]) M (fun _ vv M' => vv = none ∧ M' = M) := by
  refine Mt.of (fun ad => [some (.int (jI (x)))]) (by decide +kernel) (fun _ => rfl) (fun _ => rfl) (fun _ => Nat.le_of_ble_eq_true rfl) fun X hX C hR => ?_
  subst hX
  show G X M 0 [some (.int (jI (x)))] []
  refine g_iload_n C dX8_needMemory_0 rfl ?_
  refine g_iconst C dX8_needMemory_1 ?_
  refine g_icmp_lt (tgt := 11) C dX8_needMemory_2 rfl (by omega) (by omega) (fun h2 => ?_) (fun h2 => ?_)
  · omega
  · refine g_iload_n C dX8_needMemory_5 rfl ?_
    refine g_bipush C dX8_needMemory_6 rfl ?_
    refine g_icmp_le (tgt := 22) C dX8_needMemory_8 rfl (by omega) (by omega) (fun h8 => ?_) (fun h8 => ?_)
    · refine g_vret C hR dX8_needMemory_22 ?_
      exact ⟨rfl, rfl⟩
    · omega
theorem gc_needMemory {X : z_X} {cc : ByteArray} {own : String} {ret : Option FieldType} {dC nC : Nat} {M : zM} {pc : Nat} {lv : List (Option Value)} {st : List Value} (C : Cx cc own ret dC nC X) (hdep : 2 ≤ dC) {idx : Nat} (hl0 : Cond.methodLink own idx yX8_needMemory ∈ tT) (hcat : (st.map fun v => v.category).sum ≤ 8) (hlen : lv.length = nC) (hdec : decode cc pc = .ok (.invokestatic idx, 3)) (x : Int) (hx : 3 ≤ x ∧ x ≤ 12)  (kk : G X M (pc + 3) lv st) : G X M pc lv (.int (jI (x)) :: st) := by
  refine g_callS (k := 1) C (c_needMemory (zL X) x hx M ) mfX8_needMemory hl0 ⟨rfl, by decide +kernel, by decide +kernel, by decide +kernel⟩ ⟨hdep, by decide⟩ rfl rfl rfl hcat hlen hdec (fun v M' h => ?_)
  obtain ⟨rfl, rfl⟩ := h
  exact kk
set_option maxHeartbeats 4000000 in
set_option maxRecDepth 10000 in
theorem c_needHow (l : Launch) (x : Int) (hx : 0 ≤ x ∧ x ≤ 3) (M : zM)  : Mt l 1 yX8_needHow cX8_needHow 1 none (fun ad => [.int (jI (x))]) M (fun _ vv M' => vv = none ∧ M' = M) := by
  refine Mt.of (fun ad => [some (.int (jI (x)))]) (by decide +kernel) (fun _ => rfl) (fun _ => rfl) (fun _ => Nat.le_of_ble_eq_true rfl) fun X hX C hR => ?_
  subst hX
  show G X M 0 [some (.int (jI (x)))] []
  refine g_iload_n C dX8_needHow_0 rfl ?_
  refine g_if_lt (tgt := 9) C dX8_needHow_1 rfl (by omega) (fun h1 => ?_) (fun h1 => ?_)
  · omega
  · refine g_iload_n C dX8_needHow_4 rfl ?_
    refine g_iconst C dX8_needHow_5 ?_
    refine g_icmp_le (tgt := 20) C dX8_needHow_6 rfl (by omega) (by omega) (fun h6 => ?_) (fun h6 => ?_)
    · refine g_vret C hR dX8_needHow_20 ?_
      exact ⟨rfl, rfl⟩
    · omega
theorem gc_needHow {X : z_X} {cc : ByteArray} {own : String} {ret : Option FieldType} {dC nC : Nat} {M : zM} {pc : Nat} {lv : List (Option Value)} {st : List Value} (C : Cx cc own ret dC nC X) (hdep : 2 ≤ dC) {idx : Nat} (hl0 : Cond.methodLink own idx yX8_needHow ∈ tT) (hcat : (st.map fun v => v.category).sum ≤ 8) (hlen : lv.length = nC) (hdec : decode cc pc = .ok (.invokestatic idx, 3)) (x : Int) (hx : 0 ≤ x ∧ x ≤ 3)  (kk : G X M (pc + 3) lv st) : G X M pc lv (.int (jI (x)) :: st) := by
  refine g_callS (k := 1) C (c_needHow (zL X) x hx M ) mfX8_needHow hl0 ⟨rfl, by decide +kernel, by decide +kernel, by decide +kernel⟩ ⟨hdep, by decide⟩ rfl rfl rfl hcat hlen hdec (fun v M' h => ?_)
  obtain ⟨rfl, rfl⟩ := h
  exact kk
set_option maxHeartbeats 4000000 in
set_option maxRecDepth 10000 in
theorem c_needRoom (l : Launch) (c : Nat) (hc : c < 12) (M : zM) (hM : M 95 1 = (c : Int)) : Mt l 1 yX8_needRoom cX8_needRoom 1 none (fun ad => [.ref (ad (95))]) M (fun _ vv M' => vv = none ∧ M' = M) := by
  refine Mt.of (fun ad => [some (.ref (ad (95)))]) (by decide +kernel) (fun _ => rfl) (fun _ => rfl) (fun _ => Nat.le_of_ble_eq_true rfl) fun X hX C hR => ?_
  subst hX
  show G X M 0 [some (.ref ((zA X) (95)))] []
  refine g_aload_n C dX8_needRoom_0 rfl ?_
  refine gf_Ms_fileCount C tw_215 dX8_needRoom_1 ?_
  rw [hM]
  refine g_bipush C dX8_needRoom_4 rfl ?_
  refine g_icmp_lt (tgt := 20) C dX8_needRoom_6 rfl (by omega) (by omega) (fun h6 => ?_) (fun h6 => ?_)
  · refine g_vret C hR dX8_needRoom_20 ?_
    exact ⟨rfl, rfl⟩
  · omega
theorem gc_needRoom {X : z_X} {cc : ByteArray} {own : String} {ret : Option FieldType} {dC nC : Nat} {M : zM} {pc : Nat} {lv : List (Option Value)} {st : List Value} (C : Cx cc own ret dC nC X) (hdep : 2 ≤ dC) {idx : Nat} (hl0 : Cond.methodLink own idx yX8_needRoom ∈ tT) (hcat : (st.map fun v => v.category).sum ≤ 8) (hlen : lv.length = nC) (hdec : decode cc pc = .ok (.invokevirtual idx, 3)) (c : Nat) (hc : c < 12) (hM : M 95 1 = (c : Int)) (kk : G X M (pc + 3) lv st) : G X M pc lv (.ref (zA X (95)) :: st) := by
  refine g_callV (k := 0) (o := 95) C (c_needRoom (zL X) c hc M hM) mfX8_needRoom hl0 ⟨rfl, by decide +kernel, by decide +kernel, by decide +kernel⟩ ⟨hdep, by decide⟩ (by omega) (fun _ _ _ _ => ze_ms) rfl rfl rfl rfl hcat hlen hdec (fun v M' h => ?_)
  obtain ⟨rfl, rfl⟩ := h
  exact kk
set_option maxHeartbeats 4000000 in
set_option maxRecDepth 10000 in
theorem c_needFit (l : Launch) (x : Nat) (hx : x ≤ 120) (M : zM) (hM : M 89 1 = (x : Int)) : Mt l 1 yX8_needFit cX8_needFit 1 none (fun ad => [.ref (ad (95))]) M (fun _ vv M' => vv = none ∧ M' = M) := by
  refine Mt.of (fun ad => [some (.ref (ad (95)))]) (by decide +kernel) (fun _ => rfl) (fun _ => rfl) (fun _ => Nat.le_of_ble_eq_true rfl) fun X hX C hR => ?_
  subst hX
  show G X M 0 [some (.ref ((zA X) (95)))] []
  refine g_aload_n C dX8_needFit_0 rfl ?_
  refine gf_Ms_outcome C tw_225 dX8_needFit_1 ?_
  refine gf_Out_made C tw_158 dX8_needFit_4 ?_
  rw [hM]
  refine g_bipush C dX8_needFit_7 rfl ?_
  refine g_icmp_le (tgt := 23) C dX8_needFit_9 rfl (by omega) (by omega) (fun h9 => ?_) (fun h9 => ?_)
  · refine g_vret C hR dX8_needFit_23 ?_
    exact ⟨rfl, rfl⟩
  · omega
theorem gc_needFit {X : z_X} {cc : ByteArray} {own : String} {ret : Option FieldType} {dC nC : Nat} {M : zM} {pc : Nat} {lv : List (Option Value)} {st : List Value} (C : Cx cc own ret dC nC X) (hdep : 2 ≤ dC) {idx : Nat} (hl0 : Cond.methodLink own idx yX8_needFit ∈ tT) (hcat : (st.map fun v => v.category).sum ≤ 8) (hlen : lv.length = nC) (hdec : decode cc pc = .ok (.invokevirtual idx, 3)) (x : Nat) (hx : x ≤ 120) (hM : M 89 1 = (x : Int)) (kk : G X M (pc + 3) lv st) : G X M pc lv (.ref (zA X (95)) :: st) := by
  refine g_callV (k := 0) (o := 95) C (c_needFit (zL X) x hx M hM) mfX8_needFit hl0 ⟨rfl, by decide +kernel, by decide +kernel, by decide +kernel⟩ ⟨hdep, by decide⟩ (by omega) (fun _ _ _ _ => ze_ms) rfl rfl rfl rfl hcat hlen hdec (fun v M' h => ?_)
  obtain ⟨rfl, rfl⟩ := h
  exact kk
set_option maxHeartbeats 4000000 in
set_option maxRecDepth 10000 in
theorem c_needTournament (l : Launch)  (M : zM) (hM : M 84 0 = 1) : Mt l 1 yX8_needTournament cX8_needTournament 1 none (fun ad => [.ref (ad (95))]) M (fun _ vv M' => vv = none ∧ M' = M) := by
  refine Mt.of (fun ad => [some (.ref (ad (95)))]) (by decide +kernel) (fun _ => rfl) (fun _ => rfl) (fun _ => Nat.le_of_ble_eq_true rfl) fun X hX C hR => ?_
  subst hX
  show G X M 0 [some (.ref ((zA X) (95)))] []
  refine g_aload_n C dX8_needTournament_0 rfl ?_
  refine gf_Ms_tournament C tw_224 dX8_needTournament_1 ?_
  refine gf_Tour_isOn C tw_100 dX8_needTournament_4 ?_
  rw [hM]
  refine g_if_ne (tgt := 21) C dX8_needTournament_7 rfl (by omega) (fun h7 => ?_) (fun h7 => ?_)
  · refine g_vret C hR dX8_needTournament_21 ?_
    exact ⟨rfl, rfl⟩
  · omega
theorem gc_needTournament {X : z_X} {cc : ByteArray} {own : String} {ret : Option FieldType} {dC nC : Nat} {M : zM} {pc : Nat} {lv : List (Option Value)} {st : List Value} (C : Cx cc own ret dC nC X) (hdep : 2 ≤ dC) {idx : Nat} (hl0 : Cond.methodLink own idx yX8_needTournament ∈ tT) (hcat : (st.map fun v => v.category).sum ≤ 8) (hlen : lv.length = nC) (hdec : decode cc pc = .ok (.invokevirtual idx, 3))  (hM : M 84 0 = 1) (kk : G X M (pc + 3) lv st) : G X M pc lv (.ref (zA X (95)) :: st) := by
  refine g_callV (k := 0) (o := 95) C (c_needTournament (zL X)  M hM) mfX8_needTournament hl0 ⟨rfl, by decide +kernel, by decide +kernel, by decide +kernel⟩ ⟨hdep, by decide⟩ (by omega) (fun _ _ _ _ => ze_ms) rfl rfl rfl rfl hcat hlen hdec (fun v M' h => ?_)
  obtain ⟨rfl, rfl⟩ := h
  exact kk
set_option maxHeartbeats 4000000 in
set_option maxRecDepth 10000 in
theorem c_needUp (l : Launch) {r : Nat} (hr : r < 20) {L : List (Int × Int)} (M : zM) (hL : zRow M r L) (hb : zIn L) (hu : upB L = true) : Mt l 2 yX8_needUp cX8_needUp 1 none (fun ad => [.ref (ad (3 * r))]) M (fun _ vv M' => vv = none ∧ M' = M) := by
  refine Mt.of (fun ad => [some (.ref (ad (3 * r)))]) (by decide +kernel) (fun _ => rfl) (fun _ => rfl) (fun _ => Nat.le_of_ble_eq_true rfl) fun X hX C hR => ?_
  subst hX
  show G X M 0 [some (.ref ((zA X) (3 * r)))] []
  refine g_aload_n C dX8_needUp_0 rfl ?_
  refine gc_Row_isUp C (by decide) tw_442 (Nat.le_of_ble_eq_true rfl) rfl dX8_needUp_1 hr hL hb (?_)
  rw [if_pos hu]
  refine g_if_ne (tgt := 18) C dX8_needUp_4 rfl (by omega) (fun h4 => ?_) (fun h4 => ?_)
  · refine g_vret C hR dX8_needUp_18 ?_
    exact ⟨rfl, rfl⟩
  · omega
theorem gc_needUp {X : z_X} {cc : ByteArray} {own : String} {ret : Option FieldType} {dC nC : Nat} {M : zM} {pc : Nat} {lv : List (Option Value)} {st : List Value} (C : Cx cc own ret dC nC X) (hdep : 3 ≤ dC) {idx : Nat} (hl0 : Cond.methodLink own idx yX8_needUp ∈ tT) (hcat : (st.map fun v => v.category).sum ≤ 8) (hlen : lv.length = nC) (hdec : decode cc pc = .ok (.invokestatic idx, 3)) {r : Nat} (hr : r < 20) {L : List (Int × Int)} (hL : zRow M r L) (hb : zIn L) (hu : upB L = true) (kk : G X M (pc + 3) lv st) : G X M pc lv (.ref (zA X (3 * r)) :: st) := by
  refine g_callS (k := 1) C (c_needUp (zL X) hr M hL hb hu) mfX8_needUp hl0 ⟨rfl, by decide +kernel, by decide +kernel, by decide +kernel⟩ ⟨hdep, by decide⟩ rfl rfl rfl hcat hlen hdec (fun v M' h => ?_)
  obtain ⟨rfl, rfl⟩ := h
  exact kk
set_option maxHeartbeats 4000000 in
set_option maxRecDepth 10000 in
theorem c_needSpace (l : Launch) {r : Nat} (hr : r < 20) {L : List (Int × Int)} (x : Int) (hx : 0 ≤ x ∧ (L.length : Int) + x ≤ 120) (M : zM) (hL : zRow M r L) : Mt l 2 yX8_needSpace cX8_needSpace 2 none (fun ad => [.ref (ad (3 * r)), .int (jI (x))]) M (fun _ vv M' => vv = none ∧ M' = M) := by
  refine Mt.of (fun ad => [some (.ref (ad (3 * r))), some (.int (jI (x)))]) (by decide +kernel) (fun _ => rfl) (fun _ => rfl) (fun _ => Nat.le_of_ble_eq_true rfl) fun X hX C hR => ?_
  subst hX
  show G X M 0 [some (.ref ((zA X) (3 * r))), some (.int (jI (x)))] []
  refine g_aload_n C dX8_needSpace_0 rfl ?_
  refine gc_Row_count C (by decide) tw_390 (Nat.le_of_ble_eq_true rfl) rfl dX8_needSpace_1 hr hL (?_)
  refine g_iload_n C dX8_needSpace_4 rfl ?_
  refine g_iadd C dX8_needSpace_5 ?_
  refine g_bipush C dX8_needSpace_6 rfl ?_
  refine g_icmp_le (tgt := 22) C dX8_needSpace_8 rfl (by omega) (by omega) (fun h8 => ?_) (fun h8 => ?_)
  · refine g_vret C hR dX8_needSpace_22 ?_
    exact ⟨rfl, rfl⟩
  · omega
theorem gc_needSpace {X : z_X} {cc : ByteArray} {own : String} {ret : Option FieldType} {dC nC : Nat} {M : zM} {pc : Nat} {lv : List (Option Value)} {st : List Value} (C : Cx cc own ret dC nC X) (hdep : 3 ≤ dC) {idx : Nat} (hl0 : Cond.methodLink own idx yX8_needSpace ∈ tT) (hcat : (st.map fun v => v.category).sum ≤ 8) (hlen : lv.length = nC) (hdec : decode cc pc = .ok (.invokestatic idx, 3)) {r : Nat} (hr : r < 20) {L : List (Int × Int)} (x : Int) (hx : 0 ≤ x ∧ (L.length : Int) + x ≤ 120) (hL : zRow M r L) (kk : G X M (pc + 3) lv st) : G X M pc lv (.int (jI (x)) :: .ref (zA X (3 * r)) :: st) := by
  refine g_callS (k := 2) C (c_needSpace (zL X) hr x hx M hL) mfX8_needSpace hl0 ⟨rfl, by decide +kernel, by decide +kernel, by decide +kernel⟩ ⟨hdep, by decide⟩ rfl rfl rfl hcat hlen hdec (fun v M' h => ?_)
  obtain ⟨rfl, rfl⟩ := h
  exact kk
set_option maxHeartbeats 4000000 in
set_option maxRecDepth 10000 in
theorem c_setMemory (l : Launch) (p m : Int) (hp : 2 ≤ p ∧ p ≤ 10) (hm : 3 ≤ m ∧ m ≤ 12) (M : zM)  : Mt l 2 yX8_setMemory cX8_setMemory 4 (some .int) (fun ad => [.ref (ad (95)), .int (jI (p)), .int (jI (m))]) M (fun _ vv M' => ∃ x : Int, vv = some (.int (jI x)) ∧ (M' = zu (zu M 95 2 p) 95 3 m)) := by
  refine Mt.of (fun ad => [some (.ref (ad (95))), some (.int (jI (p))), some (.int (jI (m))), none]) (by decide +kernel) (fun _ => rfl) (fun _ => rfl) (fun _ => Nat.le_of_ble_eq_true rfl) fun X hX C hR => ?_
  subst hX
  show G X M 0 [some (.ref ((zA X) (95))), some (.int (jI (p))), some (.int (jI (m))), none] []
  refine g_iload_n C dX8_setMemory_0 rfl ?_
  refine g_iconst C dX8_setMemory_1 ?_
  refine g_icmp_lt (tgt := 11) C dX8_setMemory_2 rfl (by omega) (by omega) (fun h2 => ?_) (fun h2 => ?_)
  · omega
  · refine g_iload_n C dX8_setMemory_5 rfl ?_
    refine g_bipush C dX8_setMemory_6 rfl ?_
    refine g_icmp_le (tgt := 21) C dX8_setMemory_8 rfl (by omega) (by omega) (fun h8 => ?_) (fun h8 => ?_)
    · refine g_iload_n C dX8_setMemory_21 rfl ?_
      refine gc_needMemory C (by decide) tw_329 (Nat.le_of_ble_eq_true rfl) rfl dX8_setMemory_22 _ hm (?_)
      refine g_aload_n C dX8_setMemory_25 rfl ?_
      refine gf_Ms_memory C tw_217 dX8_setMemory_26 ?_
      refine g_istore_n C dX8_setMemory_29 (Nat.le_of_ble_eq_true rfl) ?_
      show G X _ 30 [_, _, _, _] _
      refine g_aload_n C dX8_setMemory_30 rfl ?_
      refine g_iload_n C dX8_setMemory_31 rfl ?_
      refine gp_Ms_page C tw_216 dX8_setMemory_32 ?_
      refine g_aload_n C dX8_setMemory_35 rfl ?_
      refine g_iload_n C dX8_setMemory_36 rfl ?_
      refine gp_Ms_memory C tw_217 dX8_setMemory_37 ?_
      show G X _ 40 _ _
      refine g_iload_n C dX8_setMemory_40 rfl ?_
      refine g_iret C hR dX8_setMemory_41 ?_
      exact ⟨_, rfl, rfl⟩
    · omega
theorem gc_setMemory {X : z_X} {cc : ByteArray} {own : String} {ret : Option FieldType} {dC nC : Nat} {M : zM} {pc : Nat} {lv : List (Option Value)} {st : List Value} (C : Cx cc own ret dC nC X) (hdep : 3 ≤ dC) {idx : Nat} (hl0 : Cond.methodLink own idx yX8_setMemory ∈ tT) (hcat : (st.map fun v => v.category).sum ≤ 8) (hlen : lv.length = nC) (hdec : decode cc pc = .ok (.invokevirtual idx, 3)) (p m : Int) (hp : 2 ≤ p ∧ p ≤ 10) (hm : 3 ≤ m ∧ m ≤ 12)  (kk : ∀ (x : Int) (M' : zM), (M' = zu (zu M 95 2 p) 95 3 m) → G X M' (pc + 3) lv (.int (jI x) :: st)) : G X M pc lv (.int (jI (m)) :: .int (jI (p)) :: .ref (zA X (95)) :: st) := by
  refine g_callV (k := 2) (o := 95) C (c_setMemory (zL X) p m hp hm M ) mfX8_setMemory hl0 ⟨rfl, by decide +kernel, by decide +kernel, by decide +kernel⟩ ⟨hdep, by decide⟩ (by omega) (fun _ _ _ _ => ze_ms) rfl rfl rfl rfl hcat hlen hdec (fun v M' h => ?_)
  obtain ⟨x, rfl, h⟩ := h
  exact kk x M' h
set_option maxHeartbeats 4000000 in
set_option maxRecDepth 10000 in
theorem c_addFile (l : Launch) (c : Nat) (hc : c < 12) (M : zM) (hM : M 95 1 = (c : Int)) : Mt l 2 yX8_addFile cX8_addFile 2 (some .int) (fun ad => [.ref (ad (95))]) M (fun _ vv M' => ∃ x : Int, vv = some (.int (jI x)) ∧ (x = (c : Int) ∧ zRow M' c [] ∧ M' 95 1 = (c : Int) + 1 ∧ (∀ k, k ≠ 1 → M' 95 k = M 95 k) ∧ ∀ o, o ≠ 3 * c → o ≠ 3 * c + 1 → o ≠ 3 * c + 2 → o ≠ 95 → M' o = M o)) := by
  refine Mt.of (fun ad => [some (.ref (ad (95))), none]) (by decide +kernel) (fun _ => rfl) (fun _ => rfl) (fun _ => Nat.le_of_ble_eq_true rfl) fun X hX C hR => ?_
  subst hX
  show G X M 0 [some (.ref ((zA X) (95))), none] []
  refine g_aload_n C dX8_addFile_0 rfl ?_
  refine gc_needRoom C (by decide) tw_337 (Nat.le_of_ble_eq_true rfl) rfl dX8_addFile_1 c hc hM (?_)
  refine g_aload_n C dX8_addFile_4 rfl ?_
  refine gf_Ms_fileCount C tw_215 dX8_addFile_5 ?_
  rw [hM]
  refine g_istore_n C dX8_addFile_8 (Nat.le_of_ble_eq_true rfl) ?_
  show G X _ 9 [_, _] _
  refine g_aload_n C dX8_addFile_9 rfl ?_
  refine gf_Ms_files C tw_214 dX8_addFile_10 ?_
  refine g_iload_n C dX8_addFile_13 rfl ?_
  refine ga_files C _ (by omega) rfl dX8_addFile_14 ?_
  refine gc_Row_empty C (by decide) tw_357 (Nat.le_of_ble_eq_true rfl) rfl dX8_addFile_15 (by omega) (fun N ⟨n1, n2⟩ => ?_)
  refine g_aload_n C dX8_addFile_18 rfl ?_
  show G X _ 19 _ _
  refine g_dup C dX8_addFile_19 rfl ?_
  refine gf_Ms_fileCount C tw_215 dX8_addFile_20 ?_
  rw [n2 _ (by omega) (by omega) (by omega), hM]
  refine g_iconst C dX8_addFile_23 ?_
  refine g_iadd C dX8_addFile_24 ?_
  refine gp_Ms_fileCount C tw_215 dX8_addFile_25 ?_
  refine g_iload_n C dX8_addFile_28 rfl ?_
  show G X _ 29 _ _
  refine g_iret C hR dX8_addFile_29 ?_
  refine ⟨_, rfl, rfl, n1.same (fun o a b => zu_o _ _ _ _ (by omega)), zu_s _ _ _ _, fun k hk => ?_, fun o a b d e => ?_⟩
  · rw [zu_k _ _ _ _ hk, n2 _ (by omega) (by omega) (by omega)]
  · rw [zu_o _ _ _ _ e]; exact n2 o a b d
theorem gc_addFile {X : z_X} {cc : ByteArray} {own : String} {ret : Option FieldType} {dC nC : Nat} {M : zM} {pc : Nat} {lv : List (Option Value)} {st : List Value} (C : Cx cc own ret dC nC X) (hdep : 3 ≤ dC) {idx : Nat} (hl0 : Cond.methodLink own idx yX8_addFile ∈ tT) (hcat : (st.map fun v => v.category).sum ≤ 8) (hlen : lv.length = nC) (hdec : decode cc pc = .ok (.invokevirtual idx, 3)) (c : Nat) (hc : c < 12) (hM : M 95 1 = (c : Int)) (kk : ∀ (x : Int) (M' : zM), (x = (c : Int) ∧ zRow M' c [] ∧ M' 95 1 = (c : Int) + 1 ∧ (∀ k, k ≠ 1 → M' 95 k = M 95 k) ∧ ∀ o, o ≠ 3 * c → o ≠ 3 * c + 1 → o ≠ 3 * c + 2 → o ≠ 95 → M' o = M o) → G X M' (pc + 3) lv (.int (jI x) :: st)) : G X M pc lv (.ref (zA X (95)) :: st) := by
  refine g_callV (k := 0) (o := 95) C (c_addFile (zL X) c hc M hM) mfX8_addFile hl0 ⟨rfl, by decide +kernel, by decide +kernel, by decide +kernel⟩ ⟨hdep, by decide⟩ (by omega) (fun _ _ _ _ => ze_ms) rfl rfl rfl rfl hcat hlen hdec (fun v M' h => ?_)
  obtain ⟨x, rfl, h⟩ := h
  exact kk x M' h
set_option maxHeartbeats 4000000 in
set_option maxRecDepth 10000 in
theorem c_rowOf (l : Launch) {c : Nat} (f : Nat) (hf : f < c) (hc : c ≤ 12) (M : zM) (hM : M 95 1 = (c : Int)) : Mt l 1 yX8_rowOf cX8_rowOf 2 (some (.object "MoraineSort$Row")) (fun ad => [.ref (ad (95)), .int (jI ((f : Int)))]) M (fun ad vv M' => vv = some (.ref (ad (3 * f))) ∧ M' = M) := by
  refine Mt.of (fun ad => [some (.ref (ad (95))), some (.int (jI ((f : Int))))]) (by decide +kernel) (fun _ => rfl) (fun _ => rfl) (fun _ => Nat.le_of_ble_eq_true rfl) fun X hX C hR => ?_
  subst hX
  show G X M 0 [some (.ref ((zA X) (95))), some (.int (jI ((f : Int))))] []
  refine g_iload_n C dX8_rowOf_0 rfl ?_
  refine g_if_lt (tgt := 12) C dX8_rowOf_1 rfl (by omega) (fun h1 => ?_) (fun h1 => ?_)
  · omega
  · refine g_iload_n C dX8_rowOf_4 rfl ?_
    refine g_aload_n C dX8_rowOf_5 rfl ?_
    refine gf_Ms_fileCount C tw_215 dX8_rowOf_6 ?_
    rw [hM]
    refine g_icmp_lt (tgt := 23) C dX8_rowOf_9 rfl (by omega) (by omega) (fun h9 => ?_) (fun h9 => ?_)
    · refine g_aload_n C dX8_rowOf_23 rfl ?_
      refine gf_Ms_files C tw_214 dX8_rowOf_24 ?_
      refine g_iload_n C dX8_rowOf_27 rfl ?_
      refine ga_files C _ (by omega) rfl dX8_rowOf_28 ?_
      refine g_aret C hR dX8_rowOf_29 ?_
      exact ⟨rfl, rfl⟩
    · omega
theorem gc_rowOf {X : z_X} {cc : ByteArray} {own : String} {ret : Option FieldType} {dC nC : Nat} {M : zM} {pc : Nat} {lv : List (Option Value)} {st : List Value} (C : Cx cc own ret dC nC X) (hdep : 2 ≤ dC) {idx : Nat} (hl0 : Cond.methodLink own idx yX8_rowOf ∈ tT) (hcat : (st.map fun v => v.category).sum ≤ 8) (hlen : lv.length = nC) (hdec : decode cc pc = .ok (.invokevirtual idx, 3)) {c : Nat} (f : Nat) (hf : f < c) (hc : c ≤ 12) (hM : M 95 1 = (c : Int)) (kk : G X M (pc + 3) lv (.ref (zA X (3 * f)) :: st)) : G X M pc lv (.int (jI ((f : Int))) :: .ref (zA X (95)) :: st) := by
  refine g_callV (k := 1) (o := 95) C (c_rowOf (zL X) f hf hc M hM) mfX8_rowOf hl0 ⟨rfl, by decide +kernel, by decide +kernel, by decide +kernel⟩ ⟨hdep, by decide⟩ (by omega) (fun _ _ _ _ => ze_ms) rfl rfl rfl rfl hcat hlen hdec (fun v M' h => ?_)
  obtain ⟨rfl, rfl⟩ := h
  exact kk
set_option maxHeartbeats 4000000 in
set_option maxRecDepth 10000 in
theorem c_forget (l : Launch) (x : Int) (hx : 0 ≤ x ∧ x ≤ 12) (M : zM) (h4 : 0 ≤ M 84 4 ∧ M 84 4 ≤ 12) (h5 : 0 ≤ M 84 5 ∧ M 84 5 ≤ 12) : Mt l 1 yX7_forget cX7_forget 2 none (fun ad => [.ref (ad (84)), .int (jI (x))]) M (fun _ vv M' => vv = none ∧ ((∀ o, o ≠ 84 → M' o = M o) ∧ (∀ k, k ≠ 0 → M' 84 k = M 84 k) ∧ (M' 84 0 = M 84 0 ∨ M' 84 0 = 0))) := by
  refine Mt.of (fun ad => [some (.ref (ad (84))), some (.int (jI (x)))]) (by decide +kernel) (fun _ => rfl) (fun _ => rfl) (fun _ => Nat.le_of_ble_eq_true rfl) fun X hX C hR => ?_
  subst hX
  show G X M 0 [some (.ref ((zA X) (84))), some (.int (jI (x)))] []
  refine g_iload_n C dX7_forget_0 rfl ?_
  refine g_aload_n C dX7_forget_1 rfl ?_
  refine gf_Tour_firstFile C tw_106 dX7_forget_2 ?_
  refine g_icmp_lt (tgt := 26) C dX7_forget_5 rfl (by omega) (by omega) (fun h5 => ?_) (fun h5 => ?_)
  · refine g_vret C hR dX7_forget_26 ?_
    exact ⟨rfl, fun _ _ => rfl, fun _ _ => rfl, Or.inl rfl⟩
  · refine g_iload_n C dX7_forget_8 rfl ?_
    refine g_aload_n C dX7_forget_9 rfl ?_
    refine gf_Tour_firstFile C tw_106 dX7_forget_10 ?_
    refine g_aload_n C dX7_forget_13 rfl ?_
    refine gf_Tour_rowCount C tw_107 dX7_forget_14 ?_
    refine g_iadd C dX7_forget_17 ?_
    show G X _ 18 _ _
    refine g_icmp_ge (tgt := 26) C dX7_forget_18 rfl (by omega) (by omega) (fun h18 => ?_) (fun h18 => ?_)
    · refine g_vret C hR dX7_forget_26 ?_
      exact ⟨rfl, fun _ _ => rfl, fun _ _ => rfl, Or.inl rfl⟩
    · refine g_aload_n C dX7_forget_21 rfl ?_
      refine g_iconst C dX7_forget_22 ?_
      refine gp_Tour_isOn C (by omega) tw_99 dX7_forget_23 ?_
      refine g_vret C hR dX7_forget_26 ?_
      exact ⟨rfl, fun o h => zu_o _ _ _ _ h, fun k h => zu_k _ _ _ _ h, Or.inr (zu_s _ _ _ _)⟩
theorem gc_forget {X : z_X} {cc : ByteArray} {own : String} {ret : Option FieldType} {dC nC : Nat} {M : zM} {pc : Nat} {lv : List (Option Value)} {st : List Value} (C : Cx cc own ret dC nC X) (hdep : 2 ≤ dC) {idx : Nat} (hl0 : Cond.methodLink own idx yX7_forget ∈ tT) (hcat : (st.map fun v => v.category).sum ≤ 8) (hlen : lv.length = nC) (hdec : decode cc pc = .ok (.invokevirtual idx, 3)) (x : Int) (hx : 0 ≤ x ∧ x ≤ 12) (h4 : 0 ≤ M 84 4 ∧ M 84 4 ≤ 12) (h5 : 0 ≤ M 84 5 ∧ M 84 5 ≤ 12) (kk : ∀ M' : zM, ((∀ o, o ≠ 84 → M' o = M o) ∧ (∀ k, k ≠ 0 → M' 84 k = M 84 k) ∧ (M' 84 0 = M 84 0 ∨ M' 84 0 = 0)) → G X M' (pc + 3) lv st) : G X M pc lv (.int (jI (x)) :: .ref (zA X (84)) :: st) := by
  refine g_callV (k := 1) (o := 84) C (c_forget (zL X) x hx M h4 h5) mfX7_forget hl0 ⟨rfl, by decide +kernel, by decide +kernel, by decide +kernel⟩ ⟨hdep, by decide⟩ (by omega) (fun _ _ _ _ => ze_tour) rfl rfl rfl rfl hcat hlen hdec (fun v M' h => ?_)
  obtain ⟨rfl, h⟩ := h
  exact kk M' h
set_option maxHeartbeats 4000000 in
set_option maxRecDepth 10000 in
theorem c_put (l : Launch) {c : Nat} (f : Nat) (hf : f < c) (hc : c ≤ 12) {L : List (Int × Int)} (k m : Int) (hk : -999 ≤ k ∧ k ≤ 999) (hm : 0 ≤ m ∧ m ≤ 9999) (hs : L.length < 120) (M : zM) (hM : M 95 1 = (c : Int)) (hL : zRow M f L) (h4 : 0 ≤ M 84 4 ∧ M 84 4 ≤ 12) (h5 : 0 ≤ M 84 5 ∧ M 84 5 ≤ 12) : Mt l 3 yX8_put cX8_put 5 (some .int) (fun ad => [.ref (ad (95)), .int (jI ((f : Int))), .int (jI (k)), .int (jI (m))]) M (fun _ vv M' => ∃ x : Int, vv = some (.int (jI x)) ∧ (x = (L.length : Int) + 1 ∧ zRow M' f (L ++ [(k, m)]) ∧ (∀ o, o ≠ 3 * f → o ≠ 3 * f + 1 → o ≠ 3 * f + 2 → o ≠ 84 → M' o = M o) ∧ (∀ k, k ≠ 0 → M' 84 k = M 84 k) ∧ (M' 84 0 = M 84 0 ∨ M' 84 0 = 0))) := by
  refine Mt.of (fun ad => [some (.ref (ad (95))), some (.int (jI ((f : Int)))), some (.int (jI (k))), some (.int (jI (m))), none]) (by decide +kernel) (fun _ => rfl) (fun _ => rfl) (fun _ => Nat.le_of_ble_eq_true rfl) fun X hX C hR => ?_
  subst hX
  show G X M 0 [some (.ref ((zA X) (95))), some (.int (jI ((f : Int)))), some (.int (jI (k))), some (.int (jI (m))), none] []
  refine g_aload_n C dX8_put_0 rfl ?_
  refine g_iload_n C dX8_put_1 rfl ?_
  refine gc_rowOf C (by decide) tw_365 (Nat.le_of_ble_eq_true rfl) rfl dX8_put_2 f hf hc hM (?_)
  refine g_astore C dX8_put_5 (Nat.le_of_ble_eq_true rfl) ?_
  show G X _ 7 [_, _, _, _, _] _
  refine g_iload_n C dX8_put_7 rfl ?_
  refine g_sipush C dX8_put_8 rfl ?_
  refine g_icmp_lt (tgt := 21) C dX8_put_11 rfl (by omega) (by omega) (fun h11 => ?_) (fun h11 => ?_)
  · omega
  · refine g_iload_n C dX8_put_14 rfl ?_
    refine g_sipush C dX8_put_15 rfl ?_
    refine g_icmp_le (tgt := 31) C dX8_put_18 rfl (by omega) (by omega) (fun h18 => ?_) (fun h18 => ?_)
    · refine g_iload_n C dX8_put_31 rfl ?_
      refine g_if_lt (tgt := 42) C dX8_put_32 rfl (by omega) (fun h32 => ?_) (fun h32 => ?_)
      · omega
      · refine g_iload_n C dX8_put_35 rfl ?_
        refine g_sipush C dX8_put_36 rfl ?_
        refine g_icmp_lt (tgt := 52) C dX8_put_39 rfl (by omega) (by omega) (fun h39 => ?_) (fun h39 => ?_)
        · refine g_aload C dX8_put_52 rfl ?_
          refine g_iconst C dX8_put_54 ?_
          refine gc_needSpace C (by decide) tw_387 (Nat.le_of_ble_eq_true rfl) rfl dX8_put_55 (by omega) 1 (by omega) hL (?_)
          refine g_aload_n C dX8_put_58 rfl ?_
          refine gf_Ms_tournament C tw_224 dX8_put_59 ?_
          refine g_iload_n C dX8_put_62 rfl ?_
          show G X _ 63 _ _
          refine gc_forget C (by decide) tw_395 (Nat.le_of_ble_eq_true rfl) rfl dX8_put_63 _ (by omega) h4 h5 (fun N ⟨n1, n2, n3⟩ => ?_)
          refine g_aload C dX8_put_66 rfl ?_
          refine g_iload_n C dX8_put_68 rfl ?_
          refine g_iload_n C dX8_put_69 rfl ?_
          refine gc_Row_add C (by decide) tw_399 (Nat.le_of_ble_eq_true rfl) rfl dX8_put_70 (by omega) k m hs (hL.same (fun o a b => n1 o (by omega))) (fun N2 ⟨n4, n5⟩ => ?_)
          refine g_aload C dX8_put_73 rfl ?_
          show G X _ 75 _ _
          refine gc_Row_count C (by decide) tw_390 (Nat.le_of_ble_eq_true rfl) rfl dX8_put_75 (by omega) n4 (?_)
          refine g_iret C hR dX8_put_78 ?_
          refine ⟨_, rfl, by simp, n4, fun o a b d e => (n5 o a b d).trans (n1 o e), fun q hq => by rw [n5 84 (by omega) (by omega) (by omega)]; exact n2 q hq, by rw [n5 84 (by omega) (by omega) (by omega)]; exact n3⟩
        · omega
    · omega
theorem gc_put {X : z_X} {cc : ByteArray} {own : String} {ret : Option FieldType} {dC nC : Nat} {M : zM} {pc : Nat} {lv : List (Option Value)} {st : List Value} (C : Cx cc own ret dC nC X) (hdep : 4 ≤ dC) {idx : Nat} (hl0 : Cond.methodLink own idx yX8_put ∈ tT) (hcat : (st.map fun v => v.category).sum ≤ 8) (hlen : lv.length = nC) (hdec : decode cc pc = .ok (.invokevirtual idx, 3)) {c : Nat} (f : Nat) (hf : f < c) (hc : c ≤ 12) {L : List (Int × Int)} (k m : Int) (hk : -999 ≤ k ∧ k ≤ 999) (hm : 0 ≤ m ∧ m ≤ 9999) (hs : L.length < 120) (hM : M 95 1 = (c : Int)) (hL : zRow M f L) (h4 : 0 ≤ M 84 4 ∧ M 84 4 ≤ 12) (h5 : 0 ≤ M 84 5 ∧ M 84 5 ≤ 12) (kk : ∀ (x : Int) (M' : zM), (x = (L.length : Int) + 1 ∧ zRow M' f (L ++ [(k, m)]) ∧ (∀ o, o ≠ 3 * f → o ≠ 3 * f + 1 → o ≠ 3 * f + 2 → o ≠ 84 → M' o = M o) ∧ (∀ k, k ≠ 0 → M' 84 k = M 84 k) ∧ (M' 84 0 = M 84 0 ∨ M' 84 0 = 0)) → G X M' (pc + 3) lv (.int (jI x) :: st)) : G X M pc lv (.int (jI (m)) :: .int (jI (k)) :: .int (jI ((f : Int))) :: .ref (zA X (95)) :: st) := by
  refine g_callV (k := 3) (o := 95) C (c_put (zL X) f hf hc k m hk hm hs M hM hL h4 h5) mfX8_put hl0 ⟨rfl, by decide +kernel, by decide +kernel, by decide +kernel⟩ ⟨hdep, by decide⟩ (by omega) (fun _ _ _ _ => ze_ms) rfl rfl rfl rfl hcat hlen hdec (fun v M' h => ?_)
  obtain ⟨x, rfl, h⟩ := h
  exact kk x M' h
set_option maxHeartbeats 4000000 in
set_option maxRecDepth 10000 in
theorem c_putRow (l : Launch) {c : Nat} (f : Nat) (hf : f < c) (hc : c ≤ 12) {L : List (Int × Int)} (first step span : Int) (count : Nat) (h1 : 0 ≤ first ∧ first ≤ 999) (h2 : -999 ≤ step ∧ step ≤ 999) (h3 : 1 ≤ span ∧ span ≤ 999) (hn : 1 ≤ count ∧ L.length + count ≤ 120) (M : zM) (hM : M 95 1 = (c : Int)) (hL : zRow M f L) (h4 : 0 ≤ M 84 4 ∧ M 84 4 ≤ 12) (h5 : 0 ≤ M 84 5 ∧ M 84 5 ≤ 12) : Mt l 3 yX8_putRow cX8_putRow 8 (some .int) (fun ad => [.ref (ad (95)), .int (jI ((f : Int))), .int (jI (first)), .int (jI (step)), .int (jI (span)), .int (jI ((count : Int)))]) M (fun _ vv M' => ∃ x : Int, vv = some (.int (jI x)) ∧ (zRow M' f (L ++ prL first step span count) ∧ (∀ o, o ≠ 3 * f → o ≠ 3 * f + 1 → o ≠ 3 * f + 2 → o ≠ 84 → M' o = M o) ∧ (∀ k, k ≠ 0 → M' 84 k = M 84 k) ∧ (M' 84 0 = M 84 0 ∨ M' 84 0 = 0))) := by
  refine Mt.of (fun ad => [some (.ref (ad (95))), some (.int (jI ((f : Int)))), some (.int (jI (first))), some (.int (jI (step))), some (.int (jI (span))), some (.int (jI ((count : Int)))), none, none]) (by decide +kernel) (fun _ => rfl) (fun _ => rfl) (fun _ => Nat.le_of_ble_eq_true rfl) fun X hX C hR => ?_
  subst hX
  show G X M 0 [some (.ref ((zA X) (95))), some (.int (jI ((f : Int)))), some (.int (jI (first))), some (.int (jI (step))), some (.int (jI (span))), some (.int (jI ((count : Int)))), none, none] []
  have hbl : ∀ N1 : zM, (∀ o, o ≠ 84 → N1 o = M o) → (∀ k, k ≠ 0 → N1 84 k = M 84 k) → (N1 84 0 = M 84 0 ∨ N1 84 0 = 0) → zRow N1 f L → G X N1 117 [some (.ref (zA X 95)), some (.int (jI (f : Int))), some (.int (jI first)), some (.int (jI step)), some (.int (jI span)), some (.int (jI (count : Int))), some (.ref (zA X (3 * f))), some (.int (jI 0))] [] := by
    intro N1 m1 m2 m3 hL1
    have lp : ∀ (fk : Nat) (k : Nat) (N : zM), 200 - k < fk → k ≤ count → zRow N f (L ++ prL first step span k) → zFr N1 N f → G X N 117 [some (.ref (zA X 95)), some (.int (jI (f : Int))), some (.int (jI first)), some (.int (jI step)), some (.int (jI span)), some (.int (jI (count : Int))), some (.ref (zA X (3 * f))), some (.int (jI (k : Int)))] [] := by
      intro fk
      induction fk with
      | zero => intro k N hk; exact absurd hk (Nat.not_lt_zero _)
      | succ fk ih =>
        intro k N hk k1 hN hF
        refine g_iload C dX8_putRow_117 rfl ?_
        refine g_iload C dX8_putRow_119 rfl ?_
        refine g_icmp_ge (tgt := 151) C dX8_putRow_121 rfl (by omega) (by omega) (fun h121 => ?_) (fun h121 => ?_)
        · refine g_aload C dX8_putRow_151 rfl ?_
          refine gc_Row_count C (by decide) tw_390 (Nat.le_of_ble_eq_true rfl) rfl dX8_putRow_153 (by omega) hN (?_)
          refine g_iret C hR dX8_putRow_156 ?_
          refine ⟨_, rfl, ?_, fun o a b d e => (hF o a b d).trans (m1 o e), fun q hq => by rw [hF 84 (by omega) (by omega) (by omega)]; exact m2 q hq, by rw [hF 84 (by omega) (by omega) (by omega)]; exact m3⟩
          rw [show k = count by omega] at hN
          exact hN
        · refine g_aload C dX8_putRow_124 rfl ?_
          refine g_iload_n C dX8_putRow_126 rfl ?_
          refine g_iload C dX8_putRow_127 rfl ?_
          refine g_iload_n C dX8_putRow_129 rfl ?_
          refine g_imul C dX8_putRow_130 ?_
          refine g_iadd C dX8_putRow_131 ?_
          show G X _ 132 _ _
          refine g_iload C dX8_putRow_132 rfl ?_
          have hq : -300000 ≤ (k : Int) * step ∧ (k : Int) * step ≤ 300000 := by
            have g1 : (k : Int) * step ≤ (k : Int) * 999 := Int.mul_le_mul_of_nonneg_left h2.2 (by omega)
            have g2 : (k : Int) * (-999) ≤ (k : Int) * step := Int.mul_le_mul_of_nonneg_left h2.1 (by omega)
            omega
          refine gc_floorMod C (by decide) tw_411 (Nat.le_of_ble_eq_true rfl) rfl dX8_putRow_134 _ _ (by omega) (by omega) (?_)
          refine g_iload C dX8_putRow_137 rfl ?_
          refine g_bipush C dX8_putRow_139 rfl ?_
          refine g_irem C dX8_putRow_141 (by omega) (by omega) ?_
          refine gc_Row_add C (by decide) tw_399 (Nat.le_of_ble_eq_true rfl) rfl dX8_putRow_142 (by omega) _ _ (by rw [List.length_append, prL_len]; omega) hN (fun N2 ⟨n1, n2⟩ => ?_)
          show G X _ 145 _ _
          refine g_iinc C dX8_putRow_145 rfl ?_
          show G X _ 148 [_, _, _, _, _, _, _, _] _
          refine g_goto (tgt := 117) C dX8_putRow_148 rfl ?_
          show G X _ 117 _ _
          exact ih (k + 1) N2 (by omega) (by omega) (by rw [prL, ← List.append_assoc]; exact n1) (hF.trans n2)
    exact lp 300 0 N1 (by omega) (Nat.zero_le _) (by rw [prL, List.append_nil]; exact hL1) zFr.refl
  refine g_aload_n C dX8_putRow_0 rfl ?_
  refine g_iload_n C dX8_putRow_1 rfl ?_
  refine gc_rowOf C (by decide) tw_365 (Nat.le_of_ble_eq_true rfl) rfl dX8_putRow_2 f hf hc hM (?_)
  refine g_astore C dX8_putRow_5 (Nat.le_of_ble_eq_true rfl) ?_
  show G X _ 7 [_, _, _, _, _, _, _, _] _
  refine g_iload_n C dX8_putRow_7 rfl ?_
  refine g_if_lt (tgt := 18) C dX8_putRow_8 rfl (by omega) (fun h8 => ?_) (fun h8 => ?_)
  · omega
  · refine g_iload_n C dX8_putRow_11 rfl ?_
    refine g_sipush C dX8_putRow_12 rfl ?_
    refine g_icmp_le (tgt := 28) C dX8_putRow_15 rfl (by omega) (by omega) (fun h15 => ?_) (fun h15 => ?_)
    · refine g_iload_n C dX8_putRow_28 rfl ?_
      refine g_sipush C dX8_putRow_29 rfl ?_
      refine g_icmp_lt (tgt := 42) C dX8_putRow_32 rfl (by omega) (by omega) (fun h32 => ?_) (fun h32 => ?_)
      · omega
      · refine g_iload_n C dX8_putRow_35 rfl ?_
        refine g_sipush C dX8_putRow_36 rfl ?_
        refine g_icmp_le (tgt := 52) C dX8_putRow_39 rfl (by omega) (by omega) (fun h39 => ?_) (fun h39 => ?_)
        · refine g_iload C dX8_putRow_52 rfl ?_
          refine g_iconst C dX8_putRow_54 ?_
          refine g_icmp_lt (tgt := 66) C dX8_putRow_55 rfl (by omega) (by omega) (fun h55 => ?_) (fun h55 => ?_)
          · omega
          · refine g_iload C dX8_putRow_58 rfl ?_
            refine g_sipush C dX8_putRow_60 rfl ?_
            refine g_icmp_le (tgt := 76) C dX8_putRow_63 rfl (by omega) (by omega) (fun h63 => ?_) (fun h63 => ?_)
            · refine g_iload C dX8_putRow_76 rfl ?_
              refine g_iconst C dX8_putRow_78 ?_
              refine g_icmp_lt (tgt := 89) C dX8_putRow_79 rfl (by omega) (by omega) (fun h79 => ?_) (fun h79 => ?_)
              · omega
              · refine g_iload C dX8_putRow_82 rfl ?_
                refine g_bipush C dX8_putRow_84 rfl ?_
                refine g_icmp_le (tgt := 99) C dX8_putRow_86 rfl (by omega) (by omega) (fun h86 => ?_) (fun h86 => ?_)
                · refine g_aload C dX8_putRow_99 rfl ?_
                  refine g_iload C dX8_putRow_101 rfl ?_
                  refine gc_needSpace C (by decide) tw_387 (Nat.le_of_ble_eq_true rfl) rfl dX8_putRow_103 (by omega) (count : Int) (by omega) hL (?_)
                  refine g_aload_n C dX8_putRow_106 rfl ?_
                  refine gf_Ms_tournament C tw_224 dX8_putRow_107 ?_
                  refine g_iload_n C dX8_putRow_110 rfl ?_
                  show G X _ 111 _ _
                  refine gc_forget C (by decide) tw_395 (Nat.le_of_ble_eq_true rfl) rfl dX8_putRow_111 _ (by omega) h4 h5 (fun N1 ⟨m1, m2, m3⟩ => ?_)
                  refine g_iconst C dX8_putRow_114 ?_
                  refine g_istore C dX8_putRow_115 (Nat.le_of_ble_eq_true rfl) ?_
                  show G X _ 117 [_, _, _, _, _, _, _, _] _
                  exact hbl N1 m1 m2 m3 (hL.same (fun o a b => m1 o (by omega)))
                · omega
            · omega
        · omega
    · omega
theorem gc_putRow {X : z_X} {cc : ByteArray} {own : String} {ret : Option FieldType} {dC nC : Nat} {M : zM} {pc : Nat} {lv : List (Option Value)} {st : List Value} (C : Cx cc own ret dC nC X) (hdep : 4 ≤ dC) {idx : Nat} (hl0 : Cond.methodLink own idx yX8_putRow ∈ tT) (hcat : (st.map fun v => v.category).sum ≤ 8) (hlen : lv.length = nC) (hdec : decode cc pc = .ok (.invokevirtual idx, 3)) {c : Nat} (f : Nat) (hf : f < c) (hc : c ≤ 12) {L : List (Int × Int)} (first step span : Int) (count : Nat) (h1 : 0 ≤ first ∧ first ≤ 999) (h2 : -999 ≤ step ∧ step ≤ 999) (h3 : 1 ≤ span ∧ span ≤ 999) (hn : 1 ≤ count ∧ L.length + count ≤ 120) (hM : M 95 1 = (c : Int)) (hL : zRow M f L) (h4 : 0 ≤ M 84 4 ∧ M 84 4 ≤ 12) (h5 : 0 ≤ M 84 5 ∧ M 84 5 ≤ 12) (kk : ∀ (x : Int) (M' : zM), (zRow M' f (L ++ prL first step span count) ∧ (∀ o, o ≠ 3 * f → o ≠ 3 * f + 1 → o ≠ 3 * f + 2 → o ≠ 84 → M' o = M o) ∧ (∀ k, k ≠ 0 → M' 84 k = M 84 k) ∧ (M' 84 0 = M 84 0 ∨ M' 84 0 = 0)) → G X M' (pc + 3) lv (.int (jI x) :: st)) : G X M pc lv (.int (jI ((count : Int))) :: .int (jI (span)) :: .int (jI (step)) :: .int (jI (first)) :: .int (jI ((f : Int))) :: .ref (zA X (95)) :: st) := by
  refine g_callV (k := 5) (o := 95) C (c_putRow (zL X) f hf hc first step span count h1 h2 h3 hn M hM hL h4 h5) mfX8_putRow hl0 ⟨rfl, by decide +kernel, by decide +kernel, by decide +kernel⟩ ⟨hdep, by decide⟩ (by omega) (fun _ _ _ _ => ze_ms) rfl rfl rfl rfl hcat hlen hdec (fun v M' h => ?_)
  obtain ⟨x, rfl, h⟩ := h
  exact kk x M' h
set_option maxHeartbeats 4000000 in
set_option maxRecDepth 10000 in
theorem c_size (l : Launch) {c : Nat} (f : Nat) (hf : f < c) (hc : c ≤ 12) {L : List (Int × Int)} (M : zM) (hM : M 95 1 = (c : Int)) (hL : zRow M f L) : Mt l 2 yX8_size cX8_size 2 (some .int) (fun ad => [.ref (ad (95)), .int (jI ((f : Int)))]) M (fun _ vv M' => vv = some (.int (jI ((L.length : Int)))) ∧ M' = M) := by
  refine Mt.of (fun ad => [some (.ref (ad (95))), some (.int (jI ((f : Int))))]) (by decide +kernel) (fun _ => rfl) (fun _ => rfl) (fun _ => Nat.le_of_ble_eq_true rfl) fun X hX C hR => ?_
  subst hX
  show G X M 0 [some (.ref ((zA X) (95))), some (.int (jI ((f : Int))))] []
  refine g_aload_n C dX8_size_0 rfl ?_
  refine g_iload_n C dX8_size_1 rfl ?_
  refine gc_rowOf C (by decide) tw_365 (Nat.le_of_ble_eq_true rfl) rfl dX8_size_2 f hf hc hM (?_)
  refine gc_Row_count C (by decide) tw_390 (Nat.le_of_ble_eq_true rfl) rfl dX8_size_5 (by omega) hL (?_)
  refine g_iret C hR dX8_size_8 ?_
  exact ⟨rfl, rfl⟩
theorem gc_size {X : z_X} {cc : ByteArray} {own : String} {ret : Option FieldType} {dC nC : Nat} {M : zM} {pc : Nat} {lv : List (Option Value)} {st : List Value} (C : Cx cc own ret dC nC X) (hdep : 3 ≤ dC) {idx : Nat} (hl0 : Cond.methodLink own idx yX8_size ∈ tT) (hcat : (st.map fun v => v.category).sum ≤ 8) (hlen : lv.length = nC) (hdec : decode cc pc = .ok (.invokevirtual idx, 3)) {c : Nat} (f : Nat) (hf : f < c) (hc : c ≤ 12) {L : List (Int × Int)} (hM : M 95 1 = (c : Int)) (hL : zRow M f L) (kk : G X M (pc + 3) lv (.int (jI ((L.length : Int))) :: st)) : G X M pc lv (.int (jI ((f : Int))) :: .ref (zA X (95)) :: st) := by
  refine g_callV (k := 1) (o := 95) C (c_size (zL X) f hf hc M hM hL) mfX8_size hl0 ⟨rfl, by decide +kernel, by decide +kernel, by decide +kernel⟩ ⟨hdep, by decide⟩ (by omega) (fun _ _ _ _ => ze_ms) rfl rfl rfl rfl hcat hlen hdec (fun v M' h => ?_)
  obtain ⟨rfl, rfl⟩ := h
  exact kk
set_option maxHeartbeats 4000000 in
set_option maxRecDepth 10000 in
theorem c_at (l : Launch) {c : Nat} (f : Nat) (hf : f < c) (hc : c ≤ 12) {L : List (Int × Int)} (i : Nat) (b : Bool) (hi : i < L.length) (M : zM) (hM : M 95 1 = (c : Int)) (hL : zRow M f L) : Mt l 2 yX8_at cX8_at 5 (some .int) (fun ad => [.ref (ad (95)), .int (jI ((f : Int))), .int (jI ((i : Int))), .int (jI (bI b))]) M (fun _ vv M' => vv = some (.int (jI (if b = true then mA L i else kA L i))) ∧ M' = M) := by
  refine Mt.of (fun ad => [some (.ref (ad (95))), some (.int (jI ((f : Int)))), some (.int (jI ((i : Int)))), some (.int (jI (bI b))), none]) (by decide +kernel) (fun _ => rfl) (fun _ => rfl) (fun _ => Nat.le_of_ble_eq_true rfl) fun X hX C hR => ?_
  subst hX
  show G X M 0 [some (.ref ((zA X) (95))), some (.int (jI ((f : Int)))), some (.int (jI ((i : Int)))), some (.int (jI (bI b))), none] []
  have hl2 := hL.2.1
  refine g_aload_n C dX8_at_0 rfl ?_
  refine g_iload_n C dX8_at_1 rfl ?_
  refine gc_rowOf C (by decide) tw_365 (Nat.le_of_ble_eq_true rfl) rfl dX8_at_2 f hf hc hM (?_)
  refine g_astore C dX8_at_5 (Nat.le_of_ble_eq_true rfl) ?_
  show G X _ 7 [_, _, _, _, _] _
  refine g_aload C dX8_at_7 rfl ?_
  refine g_iload_n C dX8_at_9 rfl ?_
  refine gc_Row_has C (by decide) tw_422 (Nat.le_of_ble_eq_true rfl) rfl dX8_at_10 (by omega) _ (by omega) hL (?_)
  rw [if_pos (by omega)]
  refine g_if_ne (tgt := 26) C dX8_at_13 rfl (by omega) (fun h13 => ?_) (fun h13 => ?_)
  · refine g_iload_n C dX8_at_26 rfl ?_
    refine g_if_eq (tgt := 39) C dX8_at_27 rfl (by have := bI_in b; omega) (fun h27 => ?_) (fun h27 => ?_)
    · refine g_aload C dX8_at_39 rfl ?_
      refine g_iload_n C dX8_at_41 rfl ?_
      refine gc_Row_keyAt C (by decide) tw_431 (Nat.le_of_ble_eq_true rfl) rfl dX8_at_42 (by omega) i hi hL (?_)
      refine g_iret C hR dX8_at_45 ?_
      have hb : b = false := by cases b; rfl; simp [bI] at h27
      exact ⟨by simp [hb], rfl⟩
    · refine g_aload C dX8_at_30 rfl ?_
      refine g_iload_n C dX8_at_32 rfl ?_
      refine gc_Row_markAt C (by decide) tw_427 (Nat.le_of_ble_eq_true rfl) rfl dX8_at_33 (by omega) i hi hL (?_)
      refine g_goto (tgt := 45) C dX8_at_36 rfl ?_
      show G X _ 45 _ _
      refine g_iret C hR dX8_at_45 ?_
      have hb : b = true := by cases b; simp [bI] at h27; rfl
      exact ⟨by simp [hb], rfl⟩
  · omega
theorem gc_at {X : z_X} {cc : ByteArray} {own : String} {ret : Option FieldType} {dC nC : Nat} {M : zM} {pc : Nat} {lv : List (Option Value)} {st : List Value} (C : Cx cc own ret dC nC X) (hdep : 3 ≤ dC) {idx : Nat} (hl0 : Cond.methodLink own idx yX8_at ∈ tT) (hcat : (st.map fun v => v.category).sum ≤ 8) (hlen : lv.length = nC) (hdec : decode cc pc = .ok (.invokevirtual idx, 3)) {c : Nat} (f : Nat) (hf : f < c) (hc : c ≤ 12) {L : List (Int × Int)} (i : Nat) (b : Bool) (hi : i < L.length) (hM : M 95 1 = (c : Int)) (hL : zRow M f L) (kk : G X M (pc + 3) lv (.int (jI (if b = true then mA L i else kA L i)) :: st)) : G X M pc lv (.int (jI (bI b)) :: .int (jI ((i : Int))) :: .int (jI ((f : Int))) :: .ref (zA X (95)) :: st) := by
  refine g_callV (k := 3) (o := 95) C (c_at (zL X) f hf hc i b hi M hM hL) mfX8_at hl0 ⟨rfl, by decide +kernel, by decide +kernel, by decide +kernel⟩ ⟨hdep, by decide⟩ (by omega) (fun _ _ _ _ => ze_ms) rfl rfl rfl rfl hcat hlen hdec (fun v M' h => ?_)
  obtain ⟨rfl, rfl⟩ := h
  exact kk
set_option maxHeartbeats 4000000 in
set_option maxRecDepth 10000 in
theorem c_order (l : Launch) {c : Nat} (f : Nat) (hf : f < c) (hc : c ≤ 12) {L : List (Int × Int)} (M : zM) (hM : M 95 1 = (c : Int)) (hL : zRow M f L) (hb : zIn L) : Mt l 3 yX8_order cX8_order 2 (some .int) (fun ad => [.ref (ad (95)), .int (jI ((f : Int)))]) M (fun _ vv M' => vv = some (.int (jI ((if upB L = true then 1 else 0) + (if dnB L = true then 2 else 0)))) ∧ M' = M) := by
  refine Mt.of (fun ad => [some (.ref (ad (95))), some (.int (jI ((f : Int))))]) (by decide +kernel) (fun _ => rfl) (fun _ => rfl) (fun _ => Nat.le_of_ble_eq_true rfl) fun X hX C hR => ?_
  subst hX
  show G X M 0 [some (.ref ((zA X) (95))), some (.int (jI ((f : Int))))] []
  refine g_aload_n C dX8_order_0 rfl ?_
  refine g_iload_n C dX8_order_1 rfl ?_
  refine gc_rowOf C (by decide) tw_365 (Nat.le_of_ble_eq_true rfl) rfl dX8_order_2 f hf hc hM (?_)
  refine gc_orderOf C (by decide) tw_439 (Nat.le_of_ble_eq_true rfl) rfl dX8_order_5 (by omega) hL hb (?_)
  refine g_iret C hR dX8_order_8 ?_
  exact ⟨rfl, rfl⟩
theorem gc_order {X : z_X} {cc : ByteArray} {own : String} {ret : Option FieldType} {dC nC : Nat} {M : zM} {pc : Nat} {lv : List (Option Value)} {st : List Value} (C : Cx cc own ret dC nC X) (hdep : 4 ≤ dC) {idx : Nat} (hl0 : Cond.methodLink own idx yX8_order ∈ tT) (hcat : (st.map fun v => v.category).sum ≤ 8) (hlen : lv.length = nC) (hdec : decode cc pc = .ok (.invokevirtual idx, 3)) {c : Nat} (f : Nat) (hf : f < c) (hc : c ≤ 12) {L : List (Int × Int)} (hM : M 95 1 = (c : Int)) (hL : zRow M f L) (hb : zIn L) (kk : G X M (pc + 3) lv (.int (jI ((if upB L = true then 1 else 0) + (if dnB L = true then 2 else 0))) :: st)) : G X M pc lv (.int (jI ((f : Int))) :: .ref (zA X (95)) :: st) := by
  refine g_callV (k := 1) (o := 95) C (c_order (zL X) f hf hc M hM hL hb) mfX8_order hl0 ⟨rfl, by decide +kernel, by decide +kernel, by decide +kernel⟩ ⟨hdep, by decide⟩ (by omega) (fun _ _ _ _ => ze_ms) rfl rfl rfl rfl hcat hlen hdec (fun v M' h => ?_)
  obtain ⟨rfl, rfl⟩ := h
  exact kk
set_option maxHeartbeats 4000000 in
set_option maxRecDepth 10000 in
theorem c_keysIn (l : Launch) {r : Nat} (hr : r < 20) {L : List (Int × Int)} (M : zM) (hL : zRow M r L) (hb : zIn L) : Mt l 3 yX8_keysIn cX8_keysIn 4 (some .int) (fun ad => [.ref (ad (95)), .ref (ad (3 * r))]) M (fun _ vv M' => ∃ x : Int, vv = some (.int (jI x)) ∧ (x = (dcL L L.length : Int) ∧ ∀ o, o ≠ 94 → M' o = M o)) := by
  refine Mt.of (fun ad => [some (.ref (ad (95))), some (.ref (ad (3 * r))), none, none]) (by decide +kernel) (fun _ => rfl) (fun _ => rfl) (fun _ => Nat.le_of_ble_eq_true rfl) fun X hX C hR => ?_
  subst hX
  show G X M 0 [some (.ref ((zA X) (95))), some (.ref ((zA X) (3 * r))), none, none] []
  have lp : ∀ (fk : Nat) (i : Nat) (N : zM), 200 - i < fk → i ≤ L.length → zKs N (ksL L i) → (∀ o, o ≠ 94 → N o = M o) → G X N 11 [some (.ref (zA X 95)), some (.ref (zA X (3 * r))), some (.int (jI (dcL L i : Int))), some (.int (jI (i : Int)))] [] := by
    intro fk
    induction fk with
    | zero => intro i N hk; exact absurd hk (Nat.not_lt_zero _)
    | succ fk ih =>
      intro i N hk i1 hK hF
      have hQ : zRow N r L := hL.same (fun o a b => hF o (by omega))
      have hl2 := hL.2.1
      have hdc := dcL_le L i
      refine g_iload_n C dX8_keysIn_11 rfl ?_
      refine g_aload_n C dX8_keysIn_12 rfl ?_
      refine gc_Row_count C (by decide) tw_390 (Nat.le_of_ble_eq_true rfl) rfl dX8_keysIn_13 hr hQ (?_)
      refine g_icmp_ge (tgt := 43) C dX8_keysIn_16 rfl (by omega) (by omega) (fun h16 => ?_) (fun h16 => ?_)
      · refine g_iload_n C dX8_keysIn_43 rfl ?_
        refine g_iret C hR dX8_keysIn_44 ?_
        exact ⟨_, rfl, by rw [show i = L.length by omega], hF⟩
      · refine g_aload_n C dX8_keysIn_19 rfl ?_
        refine gf_Ms_keySet C tw_227 dX8_keysIn_20 ?_
        refine g_aload_n C dX8_keysIn_23 rfl ?_
        refine g_iload_n C dX8_keysIn_24 rfl ?_
        refine gc_Row_keyAt C (by decide) tw_431 (Nat.le_of_ble_eq_true rfl) rfl dX8_keysIn_25 hr i (by omega) hQ (?_)
        have b1 := hb.at i
        obtain ⟨nk, hnk, ek⟩ : ∃ nk : Nat, nk < 1999 ∧ kA L i = (nk : Int) - 999 := ⟨(kA L i + 999).toNat, by omega, by omega⟩
        rw [ek]
        refine gc_Ks_add C (by decide) tw_462 (Nat.le_of_ble_eq_true rfl) rfl dX8_keysIn_28 nk hnk hK (fun x N2 ⟨n1, n2, n3⟩ => ?_)
        rw [n1]
        rw [← ek] at n2 ⊢
        have hF2 : ∀ o, o ≠ 94 → N2 o = M o := fun o h => (n3 o h).trans (hF o h)
        show G X _ 31 _ _
        refine g_if_eq (tgt := 37) C dX8_keysIn_31 rfl (by by_cases z : kA L i ∈ ksL L i <;> simp [z]) (fun h31 => ?_) (fun h31 => ?_)
        · refine g_iinc C dX8_keysIn_37 rfl ?_
          show G X _ 40 [_, _, _, _] _
          refine g_goto (tgt := 11) C dX8_keysIn_40 rfl ?_
          show G X _ 11 _ _
          have z : kA L i ∈ ksL L i := by
            by_cases z : kA L i ∈ ksL L i
            · exact z
            · rw [if_neg z] at h31; omega
          rw [show (dcL L i : Int) = (dcL L (i + 1) : Int) by rw [dcL, if_pos z]]
          exact ih (i + 1) N2 (by omega) (by omega) n2 hF2
        · refine g_iinc C dX8_keysIn_34 rfl ?_
          show G X _ 37 [_, _, _, _] _
          refine g_iinc C dX8_keysIn_37 rfl ?_
          show G X _ 40 [_, _, _, _] _
          refine g_goto (tgt := 11) C dX8_keysIn_40 rfl ?_
          show G X _ 11 _ _
          have z : ¬ kA L i ∈ ksL L i := by
            intro z
            rw [if_pos z] at h31; omega
          rw [show (dcL L i : Int) + 1 = (dcL L (i + 1) : Int) by rw [dcL, if_neg z]; rfl]
          exact ih (i + 1) N2 (by omega) (by omega) n2 hF2
  refine g_aload_n C dX8_keysIn_0 rfl ?_
  refine gf_Ms_keySet C tw_227 dX8_keysIn_1 ?_
  refine gc_Ks_clear C (by decide) tw_458 (Nat.le_of_ble_eq_true rfl) rfl dX8_keysIn_4  (fun N ⟨n1, n2⟩ => ?_)
  refine g_iconst C dX8_keysIn_7 ?_
  refine g_istore_n C dX8_keysIn_8 (Nat.le_of_ble_eq_true rfl) ?_
  show G X _ 9 [_, _, _, _] _
  refine g_iconst C dX8_keysIn_9 ?_
  refine g_istore_n C dX8_keysIn_10 (Nat.le_of_ble_eq_true rfl) ?_
  show G X _ 11 [_, _, _, _] _
  exact lp 300 0 N (by omega) (Nat.zero_le _) n1 n2
theorem gc_keysIn {X : z_X} {cc : ByteArray} {own : String} {ret : Option FieldType} {dC nC : Nat} {M : zM} {pc : Nat} {lv : List (Option Value)} {st : List Value} (C : Cx cc own ret dC nC X) (hdep : 4 ≤ dC) {idx : Nat} (hl0 : Cond.methodLink own idx yX8_keysIn ∈ tT) (hcat : (st.map fun v => v.category).sum ≤ 8) (hlen : lv.length = nC) (hdec : decode cc pc = .ok (.invokevirtual idx, 3)) {r : Nat} (hr : r < 20) {L : List (Int × Int)} (hL : zRow M r L) (hb : zIn L) (kk : ∀ (x : Int) (M' : zM), (x = (dcL L L.length : Int) ∧ ∀ o, o ≠ 94 → M' o = M o) → G X M' (pc + 3) lv (.int (jI x) :: st)) : G X M pc lv (.ref (zA X (3 * r)) :: .ref (zA X (95)) :: st) := by
  refine g_callV (k := 1) (o := 95) C (c_keysIn (zL X) hr M hL hb) mfX8_keysIn hl0 ⟨rfl, by decide +kernel, by decide +kernel, by decide +kernel⟩ ⟨hdep, by decide⟩ (by omega) (fun _ _ _ _ => ze_ms) rfl rfl rfl rfl hcat hlen hdec (fun v M' h => ?_)
  obtain ⟨x, rfl, h⟩ := h
  exact kk x M' h
set_option maxHeartbeats 4000000 in
set_option maxRecDepth 10000 in
theorem c_distinct (l : Launch) {c : Nat} (f : Nat) (hf : f < c) (hc : c ≤ 12) {L : List (Int × Int)} (M : zM) (hM : M 95 1 = (c : Int)) (hL : zRow M f L) (hb : zIn L) : Mt l 4 yX8_distinct cX8_distinct 2 (some .int) (fun ad => [.ref (ad (95)), .int (jI ((f : Int)))]) M (fun _ vv M' => ∃ x : Int, vv = some (.int (jI x)) ∧ (x = (dcL L L.length : Int) ∧ ∀ o, o ≠ 94 → M' o = M o)) := by
  refine Mt.of (fun ad => [some (.ref (ad (95))), some (.int (jI ((f : Int))))]) (by decide +kernel) (fun _ => rfl) (fun _ => rfl) (fun _ => Nat.le_of_ble_eq_true rfl) fun X hX C hR => ?_
  subst hX
  show G X M 0 [some (.ref ((zA X) (95))), some (.int (jI ((f : Int))))] []
  refine g_aload_n C dX8_distinct_0 rfl ?_
  refine g_aload_n C dX8_distinct_1 rfl ?_
  refine g_iload_n C dX8_distinct_2 rfl ?_
  refine gc_rowOf C (by decide) tw_365 (Nat.le_of_ble_eq_true rfl) rfl dX8_distinct_3 f hf hc hM (?_)
  refine gc_keysIn C (by decide) tw_454 (Nat.le_of_ble_eq_true rfl) rfl dX8_distinct_6 (by omega) hL hb (fun x N ⟨n1, n2⟩ => ?_)
  refine g_iret C hR dX8_distinct_9 ?_
  exact ⟨_, rfl, n1, n2⟩
theorem gc_distinct {X : z_X} {cc : ByteArray} {own : String} {ret : Option FieldType} {dC nC : Nat} {M : zM} {pc : Nat} {lv : List (Option Value)} {st : List Value} (C : Cx cc own ret dC nC X) (hdep : 5 ≤ dC) {idx : Nat} (hl0 : Cond.methodLink own idx yX8_distinct ∈ tT) (hcat : (st.map fun v => v.category).sum ≤ 8) (hlen : lv.length = nC) (hdec : decode cc pc = .ok (.invokevirtual idx, 3)) {c : Nat} (f : Nat) (hf : f < c) (hc : c ≤ 12) {L : List (Int × Int)} (hM : M 95 1 = (c : Int)) (hL : zRow M f L) (hb : zIn L) (kk : ∀ (x : Int) (M' : zM), (x = (dcL L L.length : Int) ∧ ∀ o, o ≠ 94 → M' o = M o) → G X M' (pc + 3) lv (.int (jI x) :: st)) : G X M pc lv (.int (jI ((f : Int))) :: .ref (zA X (95)) :: st) := by
  refine g_callV (k := 1) (o := 95) C (c_distinct (zL X) f hf hc M hM hL hb) mfX8_distinct hl0 ⟨rfl, by decide +kernel, by decide +kernel, by decide +kernel⟩ ⟨hdep, by decide⟩ (by omega) (fun _ _ _ _ => ze_ms) rfl rfl rfl rfl hcat hlen hdec (fun v M' h => ?_)
  obtain ⟨x, rfl, h⟩ := h
  exact kk x M' h
set_option maxHeartbeats 4000000 in
set_option maxRecDepth 10000 in
theorem c_inversions (l : Launch) {c : Nat} (f : Nat) (hf : f < c) (hc : c ≤ 12) {L : List (Int × Int)} (M : zM) (hM : M 95 1 = (c : Int)) (hL : zRow M f L) (hb : zIn L) (hu : upB L = true) : Mt l 2 yX8_inversions cX8_inversions 6 (some .int) (fun ad => [.ref (ad (95)), .int (jI ((f : Int)))]) M (fun _ vv M' => vv = some (.int (jI (0))) ∧ M' = M) := by
  refine Mt.of (fun ad => [some (.ref (ad (95))), some (.int (jI ((f : Int)))), none, none, none, none]) (by decide +kernel) (fun _ => rfl) (fun _ => rfl) (fun _ => Nat.le_of_ble_eq_true rfl) fun X hX C hR => ?_
  subst hX
  show G X M 0 [some (.ref ((zA X) (95))), some (.int (jI ((f : Int)))), none, none, none, none] []
  have lp2 : ∀ (fk : Nat) (i j : Nat), i - j < fk → j ≤ i → i < L.length → (∀ k2 : Nat, k2 = i + 1 → G X M 11 [some (.ref (zA X 95)), some (.int (jI (f : Int))), some (.ref (zA X (3 * f))), some (.int (jI 0)), some (.int (jI (k2 : Int))), none] []) → G X M 23 [some (.ref (zA X 95)), some (.int (jI (f : Int))), some (.ref (zA X (3 * f))), some (.int (jI 0)), some (.int (jI (i : Int))), some (.int (jI (j : Int)))] [] := by
    intro fk
    induction fk with
    | zero => intro i j hk; exact absurd hk (Nat.not_lt_zero _)
    | succ fk ih =>
      intro i j hk j1 j2 j3
      refine g_iload C dX8_inversions_23 rfl ?_
      refine g_iload C dX8_inversions_25 rfl ?_
      refine g_icmp_ge (tgt := 54) C dX8_inversions_27 rfl (by have := hL.2.1; omega) (by have := hL.2.1; omega) (fun h27 => ?_) (fun h27 => ?_)
      · refine g_iinc C dX8_inversions_54 rfl ?_
        show G X _ 57 [_, _, _, _, _, _] _
        refine g_goto (tgt := 11) C dX8_inversions_57 rfl ?_
        show G X _ 11 _ _
        refine g_mask [true, true, true, true, true, false] rfl ?_
        show G X _ 11 [_, _, _, _, _, _] _
        exact j3 (i + 1) rfl
      · refine g_aload_n C dX8_inversions_30 rfl ?_
        refine g_iload C dX8_inversions_31 rfl ?_
        refine gc_Row_keyAt C (by decide) tw_431 (Nat.le_of_ble_eq_true rfl) rfl dX8_inversions_33 (by omega) j (by omega) hL (?_)
        refine g_aload_n C dX8_inversions_36 rfl ?_
        refine g_iload C dX8_inversions_37 rfl ?_
        refine gc_Row_keyAt C (by decide) tw_431 (Nat.le_of_ble_eq_true rfl) rfl dX8_inversions_39 (by omega) i (by omega) hL (?_)
        show G X _ 42 _ _
        have b1 := hb.at i
        have b2 := hb.at j
        have b3 := up_le hu j i (by omega) (by omega)
        have hl2 := hL.2.1
        refine g_icmp_le (tgt := 48) C dX8_inversions_42 rfl (by omega) (by omega) (fun h42 => ?_) (fun h42 => ?_)
        · refine g_iinc C dX8_inversions_48 rfl ?_
          show G X _ 51 [_, _, _, _, _, _] _
          refine g_goto (tgt := 23) C dX8_inversions_51 rfl ?_
          show G X _ 23 _ _
          exact ih i (j + 1) (by omega) (by omega) j2 j3
        · omega
  have lp1 : ∀ (fk : Nat) (i : Nat), 300 - i < fk → i ≤ 121 → G X M 11 [some (.ref (zA X 95)), some (.int (jI (f : Int))), some (.ref (zA X (3 * f))), some (.int (jI 0)), some (.int (jI (i : Int))), none] [] := by
    intro fk
    induction fk with
    | zero => intro i hk; exact absurd hk (Nat.not_lt_zero _)
    | succ fk ih =>
      intro i hk i1
      refine g_iload C dX8_inversions_11 rfl ?_
      refine g_aload_n C dX8_inversions_13 rfl ?_
      refine gc_Row_count C (by decide) tw_390 (Nat.le_of_ble_eq_true rfl) rfl dX8_inversions_14 (by omega) hL (?_)
      refine g_icmp_ge (tgt := 60) C dX8_inversions_17 rfl (by omega) (by have := hL.2.1; omega) (fun h17 => ?_) (fun h17 => ?_)
      · refine g_iload_n C dX8_inversions_60 rfl ?_
        refine g_iret C hR dX8_inversions_61 ?_
        exact ⟨rfl, rfl⟩
      · refine g_iconst C dX8_inversions_20 ?_
        refine g_istore C dX8_inversions_21 (Nat.le_of_ble_eq_true rfl) ?_
        show G X _ 23 [_, _, _, _, _, _] _
        exact lp2 300 i 0 (by have := hL.2.1; omega) (Nat.zero_le _) (by omega) (fun k2 e => by subst e; exact ih (i + 1) (by omega) (by have := hL.2.1; omega))
  refine g_aload_n C dX8_inversions_0 rfl ?_
  refine g_iload_n C dX8_inversions_1 rfl ?_
  refine gc_rowOf C (by decide) tw_365 (Nat.le_of_ble_eq_true rfl) rfl dX8_inversions_2 f hf hc hM (?_)
  refine g_astore_n C dX8_inversions_5 (Nat.le_of_ble_eq_true rfl) ?_
  show G X _ 6 [_, _, _, _, _, _] _
  refine g_iconst C dX8_inversions_6 ?_
  refine g_istore_n C dX8_inversions_7 (Nat.le_of_ble_eq_true rfl) ?_
  show G X _ 8 [_, _, _, _, _, _] _
  refine g_iconst C dX8_inversions_8 ?_
  refine g_istore C dX8_inversions_9 (Nat.le_of_ble_eq_true rfl) ?_
  show G X _ 11 [_, _, _, _, _, _] _
  exact lp1 400 1 (by omega) (by omega)
theorem gc_inversions {X : z_X} {cc : ByteArray} {own : String} {ret : Option FieldType} {dC nC : Nat} {M : zM} {pc : Nat} {lv : List (Option Value)} {st : List Value} (C : Cx cc own ret dC nC X) (hdep : 3 ≤ dC) {idx : Nat} (hl0 : Cond.methodLink own idx yX8_inversions ∈ tT) (hcat : (st.map fun v => v.category).sum ≤ 8) (hlen : lv.length = nC) (hdec : decode cc pc = .ok (.invokevirtual idx, 3)) {c : Nat} (f : Nat) (hf : f < c) (hc : c ≤ 12) {L : List (Int × Int)} (hM : M 95 1 = (c : Int)) (hL : zRow M f L) (hb : zIn L) (hu : upB L = true) (kk : G X M (pc + 3) lv (.int (jI (0)) :: st)) : G X M pc lv (.int (jI ((f : Int))) :: .ref (zA X (95)) :: st) := by
  refine g_callV (k := 1) (o := 95) C (c_inversions (zL X) f hf hc M hM hL hb hu) mfX8_inversions hl0 ⟨rfl, by decide +kernel, by decide +kernel, by decide +kernel⟩ ⟨hdep, by decide⟩ (by omega) (fun _ _ _ _ => ze_ms) rfl rfl rfl rfl hcat hlen hdec (fun v M' h => ?_)
  obtain ⟨rfl, rfl⟩ := h
  exact kk
set_option maxHeartbeats 4000000 in
set_option maxRecDepth 10000 in
theorem c_read (l : Launch)  (M : zM)  : Mt l 1 yX8_read cX8_read 1 (some .int) (fun ad => [.ref (ad (95))]) M (fun _ vv M' => vv = some (.int (jI (M 95 4))) ∧ M' = M) := by
  refine Mt.of (fun ad => [some (.ref (ad (95)))]) (by decide +kernel) (fun _ => rfl) (fun _ => rfl) (fun _ => Nat.le_of_ble_eq_true rfl) fun X hX C hR => ?_
  subst hX
  show G X M 0 [some (.ref ((zA X) (95)))] []
  refine g_aload_n C dX8_read_0 rfl ?_
  refine gf_Ms_readPages C tw_218 dX8_read_1 ?_
  refine g_iret C hR dX8_read_4 ?_
  exact ⟨rfl, rfl⟩
theorem gc_read {X : z_X} {cc : ByteArray} {own : String} {ret : Option FieldType} {dC nC : Nat} {M : zM} {pc : Nat} {lv : List (Option Value)} {st : List Value} (C : Cx cc own ret dC nC X) (hdep : 2 ≤ dC) {idx : Nat} (hl0 : Cond.methodLink own idx yX8_read ∈ tT) (hcat : (st.map fun v => v.category).sum ≤ 8) (hlen : lv.length = nC) (hdec : decode cc pc = .ok (.invokevirtual idx, 3))   (kk : G X M (pc + 3) lv (.int (jI (M 95 4)) :: st)) : G X M pc lv (.ref (zA X (95)) :: st) := by
  refine g_callV (k := 0) (o := 95) C (c_read (zL X)  M ) mfX8_read hl0 ⟨rfl, by decide +kernel, by decide +kernel, by decide +kernel⟩ ⟨hdep, by decide⟩ (by omega) (fun _ _ _ _ => ze_ms) rfl rfl rfl rfl hcat hlen hdec (fun v M' h => ?_)
  obtain ⟨rfl, rfl⟩ := h
  exact kk
set_option maxHeartbeats 4000000 in
set_option maxRecDepth 10000 in
theorem c_written (l : Launch)  (M : zM)  : Mt l 1 yX8_written cX8_written 1 (some .int) (fun ad => [.ref (ad (95))]) M (fun _ vv M' => vv = some (.int (jI (M 95 5))) ∧ M' = M) := by
  refine Mt.of (fun ad => [some (.ref (ad (95)))]) (by decide +kernel) (fun _ => rfl) (fun _ => rfl) (fun _ => Nat.le_of_ble_eq_true rfl) fun X hX C hR => ?_
  subst hX
  show G X M 0 [some (.ref ((zA X) (95)))] []
  refine g_aload_n C dX8_written_0 rfl ?_
  refine gf_Ms_writtenPages C tw_219 dX8_written_1 ?_
  refine g_iret C hR dX8_written_4 ?_
  exact ⟨rfl, rfl⟩
theorem gc_written {X : z_X} {cc : ByteArray} {own : String} {ret : Option FieldType} {dC nC : Nat} {M : zM} {pc : Nat} {lv : List (Option Value)} {st : List Value} (C : Cx cc own ret dC nC X) (hdep : 2 ≤ dC) {idx : Nat} (hl0 : Cond.methodLink own idx yX8_written ∈ tT) (hcat : (st.map fun v => v.category).sum ≤ 8) (hlen : lv.length = nC) (hdec : decode cc pc = .ok (.invokevirtual idx, 3))   (kk : G X M (pc + 3) lv (.int (jI (M 95 5)) :: st)) : G X M pc lv (.ref (zA X (95)) :: st) := by
  refine g_callV (k := 0) (o := 95) C (c_written (zL X)  M ) mfX8_written hl0 ⟨rfl, by decide +kernel, by decide +kernel, by decide +kernel⟩ ⟨hdep, by decide⟩ (by omega) (fun _ _ _ _ => ze_ms) rfl rfl rfl rfl hcat hlen hdec (fun v M' h => ?_)
  obtain ⟨rfl, rfl⟩ := h
  exact kk
set_option maxHeartbeats 4000000 in
set_option maxRecDepth 10000 in
theorem c_runs (l : Launch) {pg : Int} {rs : List Int} {z : zZ} (M : zM) (h : zPl M 0 pg rs z) : Mt l 2 yX8_runs cX8_runs 1 (some .int) (fun ad => [.ref (ad (95))]) M (fun _ vv M' => vv = some (.int (jI ((rs.length : Int)))) ∧ M' = M) := by
  refine Mt.of (fun ad => [some (.ref (ad (95)))]) (by decide +kernel) (fun _ => rfl) (fun _ => rfl) (fun _ => Nat.le_of_ble_eq_true rfl) fun X hX C hR => ?_
  subst hX
  show G X M 0 [some (.ref ((zA X) (95)))] []
  refine g_aload_n C dX8_runs_0 rfl ?_
  refine gf_Ms_latest C tw_221 dX8_runs_1 ?_
  refine gf_Plan_runSizes C (by omega) tw_61 dX8_runs_4 ?_
  refine gc_Num_count C (by decide) tw_624 (Nat.le_of_ble_eq_true rfl) rfl dX8_runs_7 (r := 4 * 0) (by omega) h.1 (?_)
  refine g_iret C hR dX8_runs_10 ?_
  exact ⟨rfl, rfl⟩
theorem gc_runs {X : z_X} {cc : ByteArray} {own : String} {ret : Option FieldType} {dC nC : Nat} {M : zM} {pc : Nat} {lv : List (Option Value)} {st : List Value} (C : Cx cc own ret dC nC X) (hdep : 3 ≤ dC) {idx : Nat} (hl0 : Cond.methodLink own idx yX8_runs ∈ tT) (hcat : (st.map fun v => v.category).sum ≤ 8) (hlen : lv.length = nC) (hdec : decode cc pc = .ok (.invokevirtual idx, 3)) {pg : Int} {rs : List Int} {z : zZ} (h : zPl M 0 pg rs z) (kk : G X M (pc + 3) lv (.int (jI ((rs.length : Int))) :: st)) : G X M pc lv (.ref (zA X (95)) :: st) := by
  refine g_callV (k := 0) (o := 95) C (c_runs (zL X)  M h) mfX8_runs hl0 ⟨rfl, by decide +kernel, by decide +kernel, by decide +kernel⟩ ⟨hdep, by decide⟩ (by omega) (fun _ _ _ _ => ze_ms) rfl rfl rfl rfl hcat hlen hdec (fun v M' h => ?_)
  obtain ⟨rfl, rfl⟩ := h
  exact kk
set_option maxHeartbeats 4000000 in
set_option maxRecDepth 10000 in
theorem c_runSize (l : Launch) {pg : Int} {rs : List Int} {z : zZ} (k : Nat) (hk : k < rs.length) (M : zM) (h : zPl M 0 pg rs z) : Mt l 2 yX8_runSize cX8_runSize 2 (some .int) (fun ad => [.ref (ad (95)), .int (jI ((k : Int)))]) M (fun _ vv M' => vv = some (.int (jI (nA rs k))) ∧ M' = M) := by
  refine Mt.of (fun ad => [some (.ref (ad (95))), some (.int (jI ((k : Int))))]) (by decide +kernel) (fun _ => rfl) (fun _ => rfl) (fun _ => Nat.le_of_ble_eq_true rfl) fun X hX C hR => ?_
  subst hX
  show G X M 0 [some (.ref ((zA X) (95))), some (.int (jI ((k : Int))))] []
  have hl2 := h.1.2.1
  refine g_aload_n C dX8_runSize_0 rfl ?_
  refine gf_Ms_latest C tw_221 dX8_runSize_1 ?_
  refine gf_Plan_runSizes C (by omega) tw_61 dX8_runSize_4 ?_
  refine g_iload_n C dX8_runSize_7 rfl ?_
  refine gc_Num_has C (by decide) tw_629 (Nat.le_of_ble_eq_true rfl) rfl dX8_runSize_8 (r := 4 * 0) (by omega) _ (by omega) h.1 (?_)
  rw [if_pos (by omega)]
  refine g_if_ne (tgt := 24) C dX8_runSize_11 rfl (by omega) (fun h11 => ?_) (fun h11 => ?_)
  · refine g_aload_n C dX8_runSize_24 rfl ?_
    refine gf_Ms_latest C tw_221 dX8_runSize_25 ?_
    refine gf_Plan_runSizes C (by omega) tw_61 dX8_runSize_28 ?_
    refine g_iload_n C dX8_runSize_31 rfl ?_
    refine gc_Num_valueAt C (by decide) tw_634 (Nat.le_of_ble_eq_true rfl) rfl dX8_runSize_32 (r := 4 * 0) (by omega) k hk h.1 (?_)
    refine g_iret C hR dX8_runSize_35 ?_
    exact ⟨rfl, rfl⟩
  · omega
theorem gc_runSize {X : z_X} {cc : ByteArray} {own : String} {ret : Option FieldType} {dC nC : Nat} {M : zM} {pc : Nat} {lv : List (Option Value)} {st : List Value} (C : Cx cc own ret dC nC X) (hdep : 3 ≤ dC) {idx : Nat} (hl0 : Cond.methodLink own idx yX8_runSize ∈ tT) (hcat : (st.map fun v => v.category).sum ≤ 8) (hlen : lv.length = nC) (hdec : decode cc pc = .ok (.invokevirtual idx, 3)) {pg : Int} {rs : List Int} {z : zZ} (k : Nat) (hk : k < rs.length) (h : zPl M 0 pg rs z) (kk : G X M (pc + 3) lv (.int (jI (nA rs k)) :: st)) : G X M pc lv (.int (jI ((k : Int))) :: .ref (zA X (95)) :: st) := by
  refine g_callV (k := 1) (o := 95) C (c_runSize (zL X) k hk M h) mfX8_runSize hl0 ⟨rfl, by decide +kernel, by decide +kernel, by decide +kernel⟩ ⟨hdep, by decide⟩ (by omega) (fun _ _ _ _ => ze_ms) rfl rfl rfl rfl hcat hlen hdec (fun v M' h => ?_)
  obtain ⟨rfl, rfl⟩ := h
  exact kk
set_option maxHeartbeats 4000000 in
set_option maxRecDepth 10000 in
theorem c_merges (l : Launch) {pg : Int} {rs : List Int} {z : zZ} (M : zM) (h : zPl M 0 pg rs z) : Mt l 2 yX8_merges cX8_merges 1 (some .int) (fun ad => [.ref (ad (95))]) M (fun _ vv M' => vv = some (.int (jI ((z.2.2.2.2.length : Int)))) ∧ M' = M) := by
  refine Mt.of (fun ad => [some (.ref (ad (95)))]) (by decide +kernel) (fun _ => rfl) (fun _ => rfl) (fun _ => Nat.le_of_ble_eq_true rfl) fun X hX C hR => ?_
  subst hX
  show G X M 0 [some (.ref ((zA X) (95)))] []
  refine g_aload_n C dX8_merges_0 rfl ?_
  refine gf_Ms_latest C tw_221 dX8_merges_1 ?_
  refine gf_Plan_mergeSizes C (by omega) tw_65 dX8_merges_4 ?_
  refine gc_Num_count C (by decide) tw_624 (Nat.le_of_ble_eq_true rfl) rfl dX8_merges_7 (r := 4 * 0 + 2) (by omega) h.2.2.2.2.2.1 (?_)
  refine g_iret C hR dX8_merges_10 ?_
  exact ⟨rfl, rfl⟩
theorem gc_merges {X : z_X} {cc : ByteArray} {own : String} {ret : Option FieldType} {dC nC : Nat} {M : zM} {pc : Nat} {lv : List (Option Value)} {st : List Value} (C : Cx cc own ret dC nC X) (hdep : 3 ≤ dC) {idx : Nat} (hl0 : Cond.methodLink own idx yX8_merges ∈ tT) (hcat : (st.map fun v => v.category).sum ≤ 8) (hlen : lv.length = nC) (hdec : decode cc pc = .ok (.invokevirtual idx, 3)) {pg : Int} {rs : List Int} {z : zZ} (h : zPl M 0 pg rs z) (kk : G X M (pc + 3) lv (.int (jI ((z.2.2.2.2.length : Int))) :: st)) : G X M pc lv (.ref (zA X (95)) :: st) := by
  refine g_callV (k := 0) (o := 95) C (c_merges (zL X)  M h) mfX8_merges hl0 ⟨rfl, by decide +kernel, by decide +kernel, by decide +kernel⟩ ⟨hdep, by decide⟩ (by omega) (fun _ _ _ _ => ze_ms) rfl rfl rfl rfl hcat hlen hdec (fun v M' h => ?_)
  obtain ⟨rfl, rfl⟩ := h
  exact kk
set_option maxHeartbeats 4000000 in
set_option maxRecDepth 10000 in
theorem c_merge (l : Launch) {pg : Int} {rs : List Int} {z : zZ} (k : Nat) (b : Bool) (hk : k < z.2.2.2.2.length) (hk2 : k < z.2.2.2.1.length) (M : zM) (h : zPl M 0 pg rs z) : Mt l 2 yX8_merge cX8_merge 3 (some .int) (fun ad => [.ref (ad (95)), .int (jI ((k : Int))), .int (jI (bI b))]) M (fun _ vv M' => vv = some (.int (jI (if b = true then nA z.2.2.2.2 k else nA z.2.2.2.1 k))) ∧ M' = M) := by
  refine Mt.of (fun ad => [some (.ref (ad (95))), some (.int (jI ((k : Int)))), some (.int (jI (bI b)))]) (by decide +kernel) (fun _ => rfl) (fun _ => rfl) (fun _ => Nat.le_of_ble_eq_true rfl) fun X hX C hR => ?_
  subst hX
  show G X M 0 [some (.ref ((zA X) (95))), some (.int (jI ((k : Int)))), some (.int (jI (bI b)))] []
  have hl2 := h.2.2.2.2.2.1.2.1
  have hbi := bI_in b
  refine g_aload_n C dX8_merge_0 rfl ?_
  refine gf_Ms_latest C tw_221 dX8_merge_1 ?_
  refine gf_Plan_mergeSizes C (by omega) tw_65 dX8_merge_4 ?_
  refine g_iload_n C dX8_merge_7 rfl ?_
  refine gc_Num_has C (by decide) tw_629 (Nat.le_of_ble_eq_true rfl) rfl dX8_merge_8 (r := 4 * 0 + 2) (by omega) _ (by omega) h.2.2.2.2.2.1 (?_)
  rw [if_pos (by omega)]
  refine g_if_ne (tgt := 24) C dX8_merge_11 rfl (by omega) (fun h11 => ?_) (fun h11 => ?_)
  · refine g_iload_n C dX8_merge_24 rfl ?_
    refine g_if_eq (tgt := 43) C dX8_merge_25 rfl (by omega) (fun h25 => ?_) (fun h25 => ?_)
    · refine g_iload_n C dX8_merge_43 rfl ?_
      refine g_if_ne (tgt := 61) C dX8_merge_44 rfl (by omega) (fun h44 => ?_) (fun h44 => ?_)
      · omega
      · refine g_aload_n C dX8_merge_47 rfl ?_
        refine gf_Ms_latest C tw_221 dX8_merge_48 ?_
        refine gf_Plan_mergeRuns C (by omega) tw_63 dX8_merge_51 ?_
        refine g_iload_n C dX8_merge_54 rfl ?_
        refine gc_Num_valueAt C (by decide) tw_634 (Nat.le_of_ble_eq_true rfl) rfl dX8_merge_55 (r := 4 * 0 + 1) (by omega) k hk2 h.2.2.2.2.1 (?_)
        refine g_goto (tgt := 72) C dX8_merge_58 rfl ?_
        show G X _ 72 _ _
        refine g_iret C hR dX8_merge_72 ?_
        have hb : b = false := by cases b; rfl; simp [bI] at h25
        exact ⟨by simp [hb], rfl⟩
    · refine g_iload_n C dX8_merge_28 rfl ?_
      refine g_iconst C dX8_merge_29 ?_
      refine g_icmp_eq (tgt := 43) C dX8_merge_30 rfl (by omega) (by omega) (fun h30 => ?_) (fun h30 => ?_)
      · refine g_iload_n C dX8_merge_43 rfl ?_
        refine g_if_ne (tgt := 61) C dX8_merge_44 rfl (by omega) (fun h44 => ?_) (fun h44 => ?_)
        · refine g_aload_n C dX8_merge_61 rfl ?_
          refine gf_Ms_latest C tw_221 dX8_merge_62 ?_
          refine gf_Plan_mergeSizes C (by omega) tw_65 dX8_merge_65 ?_
          refine g_iload_n C dX8_merge_68 rfl ?_
          refine gc_Num_valueAt C (by decide) tw_634 (Nat.le_of_ble_eq_true rfl) rfl dX8_merge_69 (r := 4 * 0 + 2) (by omega) k hk h.2.2.2.2.2.1 (?_)
          refine g_iret C hR dX8_merge_72 ?_
          have hb : b = true := by cases b; simp [bI] at h25; rfl
          exact ⟨by simp [hb], rfl⟩
        · omega
      · omega
  · omega
theorem gc_merge {X : z_X} {cc : ByteArray} {own : String} {ret : Option FieldType} {dC nC : Nat} {M : zM} {pc : Nat} {lv : List (Option Value)} {st : List Value} (C : Cx cc own ret dC nC X) (hdep : 3 ≤ dC) {idx : Nat} (hl0 : Cond.methodLink own idx yX8_merge ∈ tT) (hcat : (st.map fun v => v.category).sum ≤ 8) (hlen : lv.length = nC) (hdec : decode cc pc = .ok (.invokevirtual idx, 3)) {pg : Int} {rs : List Int} {z : zZ} (k : Nat) (b : Bool) (hk : k < z.2.2.2.2.length) (hk2 : k < z.2.2.2.1.length) (h : zPl M 0 pg rs z) (kk : G X M (pc + 3) lv (.int (jI (if b = true then nA z.2.2.2.2 k else nA z.2.2.2.1 k)) :: st)) : G X M pc lv (.int (jI (bI b)) :: .int (jI ((k : Int))) :: .ref (zA X (95)) :: st) := by
  refine g_callV (k := 2) (o := 95) C (c_merge (zL X) k b hk hk2 M h) mfX8_merge hl0 ⟨rfl, by decide +kernel, by decide +kernel, by decide +kernel⟩ ⟨hdep, by decide⟩ (by omega) (fun _ _ _ _ => ze_ms) rfl rfl rfl rfl hcat hlen hdec (fun v M' h => ?_)
  obtain ⟨rfl, rfl⟩ := h
  exact kk
set_option maxHeartbeats 4000000 in
set_option maxRecDepth 10000 in
theorem c_matches (l : Launch)  (M : zM) (hM : M 84 0 = 0 ∨ M 84 0 = 1) : Mt l 1 yX8_matches cX8_matches 1 (some .int) (fun ad => [.ref (ad (95))]) M (fun _ vv M' => vv = some (.int (jI (if M 84 0 = 0 then 0 else M 84 3))) ∧ M' = M) := by
  refine Mt.of (fun ad => [some (.ref (ad (95)))]) (by decide +kernel) (fun _ => rfl) (fun _ => rfl) (fun _ => Nat.le_of_ble_eq_true rfl) fun X hX C hR => ?_
  subst hX
  show G X M 0 [some (.ref ((zA X) (95)))] []
  refine g_aload_n C dX8_matches_0 rfl ?_
  refine gf_Ms_tournament C tw_224 dX8_matches_1 ?_
  refine gf_Tour_isOn C tw_100 dX8_matches_4 ?_
  refine g_if_eq (tgt := 20) C dX8_matches_7 rfl (by omega) (fun h7 => ?_) (fun h7 => ?_)
  · refine g_iconst C dX8_matches_20 ?_
    refine g_iret C hR dX8_matches_21 ?_
    refine ⟨?_, rfl⟩
    first | rw [if_pos (by assumption)] | rw [if_neg (by assumption)]
  · refine g_aload_n C dX8_matches_10 rfl ?_
    refine gf_Ms_tournament C tw_224 dX8_matches_11 ?_
    refine gf_Tour_matchCount C tw_105 dX8_matches_14 ?_
    refine g_goto (tgt := 21) C dX8_matches_17 rfl ?_
    show G X _ 21 _ _
    refine g_iret C hR dX8_matches_21 ?_
    refine ⟨?_, rfl⟩
    first | rw [if_pos (by assumption)] | rw [if_neg (by assumption)]
theorem gc_matches {X : z_X} {cc : ByteArray} {own : String} {ret : Option FieldType} {dC nC : Nat} {M : zM} {pc : Nat} {lv : List (Option Value)} {st : List Value} (C : Cx cc own ret dC nC X) (hdep : 2 ≤ dC) {idx : Nat} (hl0 : Cond.methodLink own idx yX8_matches ∈ tT) (hcat : (st.map fun v => v.category).sum ≤ 8) (hlen : lv.length = nC) (hdec : decode cc pc = .ok (.invokevirtual idx, 3))  (hM : M 84 0 = 0 ∨ M 84 0 = 1) (kk : G X M (pc + 3) lv (.int (jI (if M 84 0 = 0 then 0 else M 84 3)) :: st)) : G X M pc lv (.ref (zA X (95)) :: st) := by
  refine g_callV (k := 0) (o := 95) C (c_matches (zL X)  M hM) mfX8_matches hl0 ⟨rfl, by decide +kernel, by decide +kernel, by decide +kernel⟩ ⟨hdep, by decide⟩ (by omega) (fun _ _ _ _ => ze_ms) rfl rfl rfl rfl hcat hlen hdec (fun v M' h => ?_)
  obtain ⟨rfl, rfl⟩ := h
  exact kk
