/-! sorting, and what it would cost -/
/-- what a sort leaves alone -/
def zOs (M M' : zM) (c : Nat) : Prop := ∀ o, o ≠ 3 * c → o ≠ 3 * c + 1 → o ≠ 3 * c + 2 → o ≠ 36 → o ≠ 37 → o ≠ 38 → o ≠ 89 → o ≠ 95 → (o < 60 ∨ 68 ≤ o) → o ≠ 82 → o ≠ 76 → o ≠ 77 → o ≠ 80 → o ≠ 81 → M' o = M o
def csL (L : List (Int × Int)) (rep least : Bool) (pg mem : Nat) : Int := (mkZ L rep least pg mem).2.1 + (mkZ L rep least pg mem).2.2.1
set_option maxHeartbeats 4000000 in
set_option maxRecDepth 10000 in
theorem c_giveSorted (l : Launch) {q : Nat} (hq : q < 20) (hq2 : q ≠ 12) {L : List (Int × Int)} (hn : L.length < 120) (hb : zIn L) (M : zM) (hL : zRow M q L) (hO : zOut M []) : Mt l 3 yX8_giveSorted cX8_giveSorted 5 none (fun ad => [.ref (ad (95)), .ref (ad (3 * q)), .int (jI (0))]) M (fun _ vv M' => vv = none ∧ (zOut M' (srL L) ∧ (∀ k, k ≠ 1 → M' 89 k = M 89 k) ∧ ∀ o, o ≠ 36 → o ≠ 37 → o ≠ 38 → o ≠ 89 → o ≠ 80 → o ≠ 81 → M' o = M o)) := by
  refine Mt.of (fun ad => [some (.ref (ad (95))), some (.ref (ad (3 * q))), some (.int (jI (0))), none, none]) (by decide +kernel) (fun _ => rfl) (fun _ => rfl) (fun _ => Nat.le_of_ble_eq_true rfl) fun X hX C hR => ?_
  subst hX
  show G X M 0 [some (.ref ((zA X) (95))), some (.ref ((zA X) (3 * q))), some (.int (jI (0))), none, none] []
  have lp2 : ∀ (fk : Nat) (g : Nat) (N : zM), 200 - g < fk → g ≤ L.length → zHp N 2 ((ini L L.length).drop g) → zOut N (((ini L L.length).take g).map (rcL L)) → (∀ k, k ≠ 1 → N 89 k = M 89 k) → (∀ o, o ≠ 36 → o ≠ 37 → o ≠ 38 → o ≠ 89 → o ≠ 80 → o ≠ 81 → N o = M o) → G X N 38 [some (.ref (zA X 95)), some (.ref (zA X (3 * q))), some (.int (jI 0)), some (.int (jI (g : Int))), none] [] := by
    intro fk
    induction fk with
    | zero => intro g N hk; exact absurd hk (Nat.not_lt_zero _)
    | succ fk ih =>
      intro g N hk i1 hH hO2 hk9 hF
      have hQ : zRow N q L := hL.same (fun o a b => hF o (by omega) (by omega) (by omega) (by omega) (by omega) (by omega))
      refine g_iload_n C dX8_giveSorted_38 rfl ?_
      refine g_aload_n C dX8_giveSorted_39 rfl ?_
      refine gc_Row_count C (by decide) tw_390 (Nat.le_of_ble_eq_true rfl) rfl dX8_giveSorted_40 hq hQ (?_)
      refine g_icmp_ge (tgt := 83) C dX8_giveSorted_43 rfl (by omega) (by omega) (fun h43 => ?_) (fun h43 => ?_)
      · refine g_vret C hR dX8_giveSorted_83 ?_
        refine ⟨rfl, ?_, hk9, hF⟩
        rw [show g = L.length by omega, List.take_of_length_le (by rw [ini_len]; omega)] at hO2
        exact hO2
      · refine g_aload_n C dX8_giveSorted_46 rfl ?_
        refine gf_Ms_heap C tw_223 dX8_giveSorted_47 ?_
        have hgl : g < (ini L L.length).length := by rw [ini_len]; omega
        rw [List.drop_eq_getElem_cons hgl] at hH
        obtain ⟨i, hi, e3⟩ := ini_mem (List.getElem_mem hgl)
        refine gc_Heap_pull C (by decide) tw_604 (Nat.le_of_ble_eq_true rfl) rfl dX8_giveSorted_50 (r := 2) (by omega) hH (fun x N2 ⟨n1, n2, n3⟩ => ?_)
        rw [n1, e3]
        have hw := wt_in hb (show i < 120 by omega)
        have hQ2 : zRow N2 q L := hQ.same (fun o a b => n3 o (by omega) (by omega))
        have hO3 : zOut N2 (((ini L L.length).take g).map (rcL L)) := ⟨hO2.1.same (fun o a b => n3 o (by omega) (by omega)), by rw [n3 89 (by omega) (by omega)]; exact hO2.2⟩
        refine g_bipush C dX8_giveSorted_53 rfl ?_
        refine g_irem C dX8_giveSorted_55 (by omega) (by omega) ?_
        rw [wt_rem (by omega)]
        refine g_istore C dX8_giveSorted_56 (Nat.le_of_ble_eq_true rfl) ?_
        show G X _ 58 [_, _, _, _, _] _
        refine g_aload_n C dX8_giveSorted_58 rfl ?_
        refine gf_Ms_outcome C tw_225 dX8_giveSorted_59 ?_
        refine g_aload_n C dX8_giveSorted_62 rfl ?_
        refine g_iload C dX8_giveSorted_63 rfl ?_
        refine gc_Row_keyAt C (by decide) tw_431 (Nat.le_of_ble_eq_true rfl) rfl dX8_giveSorted_65 hq i (by omega) hQ2 (?_)
        refine g_aload_n C dX8_giveSorted_68 rfl ?_
        show G X _ 69 _ _
        refine g_iload C dX8_giveSorted_69 rfl ?_
        refine gc_Row_markAt C (by decide) tw_427 (Nat.le_of_ble_eq_true rfl) rfl dX8_giveSorted_71 hq i (by omega) hQ2 (?_)
        refine gc_Out_give C (by decide) tw_605 (Nat.le_of_ble_eq_true rfl) rfl dX8_giveSorted_74 _ _ (by rw [List.length_map, List.length_take, ini_len]; omega) hO3 (fun N4 ⟨n5, n6⟩ => ?_)
        refine g_iinc C dX8_giveSorted_77 rfl ?_
        show G X _ 80 [_, _, _, _, _] _
        refine g_goto (tgt := 38) C dX8_giveSorted_80 rfl ?_
        show G X _ 38 _ _
        refine g_mask [true, true, true, true, false] rfl ?_
        show G X _ 38 [_, _, _, _, _] _
        have e2 : (ini L L.length).take (g + 1) = (ini L L.length).take g ++ [(ini L L.length)[g]] := by rw [List.take_succ, List.getElem?_eq_getElem hgl]; rfl
        refine ih (g + 1) N4 (by omega) (by omega) (n2.keep (n6.1 _ (by omega) (by omega) (by omega) (by omega)) (n6.1 _ (by omega) (by omega) (by omega) (by omega))) ?_ (fun k hk => (n6.2 k hk).trans (by rw [n3 89 (by omega) (by omega)]; exact hk9 k hk)) (fun o a b d e f h => (n6.1 o a b d e).trans ((n3 o f h).trans (hF o a b d e f h)))
        rw [e2, List.map_append, List.map_singleton, e3]
        have e4 : rcL L (wt L i) = (kA L i, mA L i) := by unfold rcL; rw [wt_mod (by omega)]
        rw [e4]; exact n5
  have hb36 : ∀ (y3 : Option Value) (N : zM), zHp N 2 (ini L L.length) → zFh M N 2 → G X N 36 [some (.ref (zA X 95)), some (.ref (zA X (3 * q))), some (.int (jI 0)), y3, none] [] := by
    intro y3 N hH hF
    refine g_iconst C dX8_giveSorted_36 ?_
    refine g_istore_n C dX8_giveSorted_37 (Nat.le_of_ble_eq_true rfl) ?_
    show G X _ 38 [_, _, _, _, _] _
    exact lp2 300 0 N (by omega) (Nat.zero_le _) hH ⟨hO.1.same (fun o a b => hF o (by omega) (by omega)), by rw [hF 89 (by omega) (by omega)]; exact hO.2⟩ (fun k _ => by rw [hF 89 (by omega) (by omega)]) (fun o _ _ _ _ f h => hF o f h)
  have lp1 : ∀ (fk : Nat) (i : Nat) (N : zM), 200 - i < fk → i ≤ L.length → zHp N 2 (ini L i) → zFh M N 2 → G X N 9 [some (.ref (zA X 95)), some (.ref (zA X (3 * q))), some (.int (jI 0)), some (.int (jI (i : Int))), none] [] := by
    intro fk
    induction fk with
    | zero => intro i N hk; exact absurd hk (Nat.not_lt_zero _)
    | succ fk ih =>
      intro i N hk i1 hH hF
      have hQ : zRow N q L := hL.same (fun o a b => hF o (by omega) (by omega))
      refine g_iload_n C dX8_giveSorted_9 rfl ?_
      refine g_aload_n C dX8_giveSorted_10 rfl ?_
      refine gc_Row_count C (by decide) tw_390 (Nat.le_of_ble_eq_true rfl) rfl dX8_giveSorted_11 hq hQ (?_)
      refine g_icmp_ge (tgt := 36) C dX8_giveSorted_14 rfl (by omega) (by omega) (fun h14 => ?_) (fun h14 => ?_)
      · obtain rfl : i = L.length := by omega
        exact hb36 _ N hH hF
      · refine g_aload_n C dX8_giveSorted_17 rfl ?_
        refine gf_Ms_heap C tw_223 dX8_giveSorted_18 ?_
        refine g_aload_n C dX8_giveSorted_21 rfl ?_
        refine g_iload_n C dX8_giveSorted_22 rfl ?_
        refine g_iload_n C dX8_giveSorted_23 rfl ?_
        refine gc_weightOf C (by decide) tw_602 (Nat.le_of_ble_eq_true rfl) rfl dX8_giveSorted_24 hq i (by omega) hQ hb (?_)
        show G X _ 27 _ _
        have hw := wt_in hb (show i < 120 by omega)
        rw [show (kA L i + 999) * 120 + (i : Int) = wt L i from rfl]
        refine gc_Heap_push C (by decide) tw_603 (Nat.le_of_ble_eq_true rfl) rfl dX8_giveSorted_27 (r := 2) (by omega) _ (by omega) (by rw [ini_len]; omega) hH (fun N2 ⟨n1, n2⟩ => ?_)
        refine g_iinc C dX8_giveSorted_30 rfl ?_
        show G X _ 33 [_, _, _, _, _] _
        refine g_goto (tgt := 9) C dX8_giveSorted_33 rfl ?_
        show G X _ 9 _ _
        exact ih (i + 1) N2 (by omega) (by omega) n1 (hF.trans n2)
  refine g_aload_n C dX8_giveSorted_0 rfl ?_
  refine gf_Ms_heap C tw_223 dX8_giveSorted_1 ?_
  refine gc_Heap_empty C (by decide) tw_601 (Nat.le_of_ble_eq_true rfl) rfl dX8_giveSorted_4 (r := 2) (by omega) (fun N ⟨n1, n2⟩ => ?_)
  refine g_iconst C dX8_giveSorted_7 ?_
  refine g_istore_n C dX8_giveSorted_8 (Nat.le_of_ble_eq_true rfl) ?_
  show G X _ 9 [_, _, _, _, _] _
  exact lp1 300 0 N (by omega) (Nat.zero_le _) n1 n2
theorem gc_giveSorted {X : z_X} {cc : ByteArray} {own : String} {ret : Option FieldType} {dC nC : Nat} {M : zM} {pc : Nat} {lv : List (Option Value)} {st : List Value} (C : Cx cc own ret dC nC X) (hdep : 4 ≤ dC) {idx : Nat} (hl0 : Cond.methodLink own idx yX8_giveSorted ∈ tT) (hcat : (st.map fun v => v.category).sum ≤ 8) (hlen : lv.length = nC) (hdec : decode cc pc = .ok (.invokevirtual idx, 3)) {q : Nat} (hq : q < 20) (hq2 : q ≠ 12) {L : List (Int × Int)} (hn : L.length < 120) (hb : zIn L) (hL : zRow M q L) (hO : zOut M []) (kk : ∀ M' : zM, (zOut M' (srL L) ∧ (∀ k, k ≠ 1 → M' 89 k = M 89 k) ∧ ∀ o, o ≠ 36 → o ≠ 37 → o ≠ 38 → o ≠ 89 → o ≠ 80 → o ≠ 81 → M' o = M o) → G X M' (pc + 3) lv st) : G X M pc lv (.int (jI (0)) :: .ref (zA X (3 * q)) :: .ref (zA X (95)) :: st) := by
  refine g_callV (k := 2) (o := 95) C (c_giveSorted (zL X) hq hq2 hn hb M hL hO) mfX8_giveSorted hl0 ⟨rfl, by decide +kernel, by decide +kernel, by decide +kernel⟩ ⟨hdep, by decide⟩ (by omega) (fun _ _ _ _ => ze_ms) rfl rfl rfl rfl hcat hlen hdec (fun v M' h => ?_)
  obtain ⟨rfl, h⟩ := h
  exact kk M' h
set_option maxHeartbeats 4000000 in
set_option maxRecDepth 10000 in
theorem c_land (l : Launch) (c : Nat) (hc : c < 12) {L : List (Int × Int)} (M : zM) (hM : M 95 1 = (c : Int)) (hO : zOut M L) : Mt l 3 yX8_land cX8_land 2 (some .int) (fun ad => [.ref (ad (95))]) M (fun _ vv M' => ∃ x : Int, vv = some (.int (jI x)) ∧ (x = (c : Int) ∧ zRow M' c L ∧ M' 95 1 = (c : Int) + 1 ∧ M' 95 2 = M 95 2 ∧ M' 95 3 = M 95 3 ∧ M' 95 4 = M 95 4 + M 89 2 ∧ M' 95 5 = M 95 5 + M 89 3 ∧ M' 95 6 = M 95 6 + M 89 4 ∧ ∀ o, o ≠ 3 * c → o ≠ 3 * c + 1 → o ≠ 3 * c + 2 → o ≠ 95 → M' o = M o)) := by
  refine Mt.of (fun ad => [some (.ref (ad (95))), none]) (by decide +kernel) (fun _ => rfl) (fun _ => rfl) (fun _ => Nat.le_of_ble_eq_true rfl) fun X hX C hR => ?_
  subst hX
  show G X M 0 [some (.ref ((zA X) (95))), none] []
  refine g_aload_n C dX8_land_0 rfl ?_
  refine g_dup C dX8_land_1 rfl ?_
  refine gf_Ms_readPages C tw_218 dX8_land_2 ?_
  refine g_aload_n C dX8_land_5 rfl ?_
  refine gf_Ms_outcome C tw_225 dX8_land_6 ?_
  refine gf_Out_readPages C tw_160 dX8_land_9 ?_
  
  show G X _ 12 _ _
  refine g_iadd C dX8_land_12 ?_
  refine gp_Ms_readPages C tw_218 dX8_land_13 ?_
  refine g_aload_n C dX8_land_16 rfl ?_
  refine g_dup C dX8_land_17 rfl ?_
  refine gf_Ms_writtenPages C tw_219 dX8_land_18 ?_
  refine g_aload_n C dX8_land_21 rfl ?_
  show G X _ 22 _ _
  refine gf_Ms_outcome C tw_225 dX8_land_22 ?_
  refine gf_Out_writtenPages C tw_162 dX8_land_25 ?_
  
  refine g_iadd C dX8_land_28 ?_
  refine gp_Ms_writtenPages C tw_219 dX8_land_29 ?_
  refine g_aload_n C dX8_land_32 rfl ?_
  refine g_dup C dX8_land_33 rfl ?_
  show G X _ 34 _ _
  refine gf_Ms_spiltPages C tw_220 dX8_land_34 ?_
  refine g_aload_n C dX8_land_37 rfl ?_
  refine gf_Ms_outcome C tw_225 dX8_land_38 ?_
  refine gf_Out_spiltPages C tw_164 dX8_land_41 ?_
  refine g_iadd C dX8_land_44 ?_
  refine gp_Ms_spiltPages C tw_220 dX8_land_45 ?_
  show G X _ 48 _ _
  refine g_aload_n C dX8_land_48 rfl ?_
  generalize hM1 : zu (zu (zu M 95 4 (M 95 4 + M 89 2)) 95 5 _) 95 6 _ = M1
  have m1 : M1 95 4 = M 95 4 + M 89 2 ∧ M1 95 5 = M 95 5 + M 89 3 ∧ M1 95 6 = M 95 6 + M 89 4 ∧ M1 95 1 = M 95 1 ∧ M1 95 2 = M 95 2 ∧ M1 95 3 = M 95 3 := by
    rw [← hM1]; simp [zu_at]
  have m2 : ∀ o, o ≠ 95 → M1 o = M o := fun o h => by rw [← hM1, zu_o _ _ _ _ h, zu_o _ _ _ _ h, zu_o _ _ _ _ h]
  refine gc_addFile C (by decide) tw_614 (Nat.le_of_ble_eq_true rfl) rfl dX8_land_49 c hc (m1.2.2.2.1.trans hM) (fun x N ⟨n0, n1, n2, n3, n4⟩ => ?_)
  rw [n0]
  refine g_istore_n C dX8_land_52 (Nat.le_of_ble_eq_true rfl) ?_
  show G X _ 53 [_, _] _
  refine g_aload_n C dX8_land_53 rfl ?_
  refine gf_Ms_files C tw_214 dX8_land_54 ?_
  refine g_iload_n C dX8_land_57 rfl ?_
  refine ga_files C _ (by omega) rfl dX8_land_58 ?_
  refine g_aload_n C dX8_land_59 rfl ?_
  refine gf_Ms_outcome C tw_225 dX8_land_60 ?_
  show G X _ 63 _ _
  refine gf_Out_out C tw_156 dX8_land_63 ?_
  refine gc_Row_addAll C (by decide) tw_615 (Nat.le_of_ble_eq_true rfl) rfl dX8_land_66 (r := c) (q := 12) (by omega) (by omega) (by omega) (hO.1.same (fun o a b => (n4 o (by omega) (by omega) (by omega) (by omega)).trans (m2 o (by omega)))) n1 (fun N2 ⟨n5, n6⟩ => ?_)
  refine g_iload_n C dX8_land_69 rfl ?_
  refine g_iret C hR dX8_land_70 ?_
  have e := n6 95 (by omega) (by omega) (by omega)
  refine ⟨_, rfl, rfl, n5, by rw [e]; exact n2, ?_, ?_, ?_, ?_, ?_, fun o a b d g => (n6 o a b d).trans ((n4 o a b d g).trans (m2 o g))⟩
  · rw [e, n3 2 (by omega)]; exact m1.2.2.2.2.1
  · rw [e, n3 3 (by omega)]; exact m1.2.2.2.2.2
  · rw [e, n3 4 (by omega)]; exact m1.1
  · rw [e, n3 5 (by omega)]; exact m1.2.1
  · rw [e, n3 6 (by omega)]; exact m1.2.2.1
theorem gc_land {X : z_X} {cc : ByteArray} {own : String} {ret : Option FieldType} {dC nC : Nat} {M : zM} {pc : Nat} {lv : List (Option Value)} {st : List Value} (C : Cx cc own ret dC nC X) (hdep : 4 ≤ dC) {idx : Nat} (hl0 : Cond.methodLink own idx yX8_land ∈ tT) (hcat : (st.map fun v => v.category).sum ≤ 8) (hlen : lv.length = nC) (hdec : decode cc pc = .ok (.invokevirtual idx, 3)) (c : Nat) (hc : c < 12) {L : List (Int × Int)} (hM : M 95 1 = (c : Int)) (hO : zOut M L) (kk : ∀ (x : Int) (M' : zM), (x = (c : Int) ∧ zRow M' c L ∧ M' 95 1 = (c : Int) + 1 ∧ M' 95 2 = M 95 2 ∧ M' 95 3 = M 95 3 ∧ M' 95 4 = M 95 4 + M 89 2 ∧ M' 95 5 = M 95 5 + M 89 3 ∧ M' 95 6 = M 95 6 + M 89 4 ∧ ∀ o, o ≠ 3 * c → o ≠ 3 * c + 1 → o ≠ 3 * c + 2 → o ≠ 95 → M' o = M o) → G X M' (pc + 3) lv (.int (jI x) :: st)) : G X M pc lv (.ref (zA X (95)) :: st) := by
  refine g_callV (k := 0) (o := 95) C (c_land (zL X) c hc M hM hO) mfX8_land hl0 ⟨rfl, by decide +kernel, by decide +kernel, by decide +kernel⟩ ⟨hdep, by decide⟩ (by omega) (fun _ _ _ _ => ze_ms) rfl rfl rfl rfl hcat hlen hdec (fun v M' h => ?_)
  obtain ⟨x, rfl, h⟩ := h
  exact kk x M' h
set_option maxHeartbeats 4000000 in
set_option maxRecDepth 10000 in
theorem c_sort (l : Launch) {c : Nat} (f : Nat) (hf : f < c) (hc : c < 12) {L : List (Int × Int)} (rep least : Bool) (pg mem : Nat) (hpg : 1 ≤ pg ∧ pg ≤ 100) (hm : 3 ≤ mem ∧ mem ≤ 12) (hb : zIn L) (hn : L.length ≤ 100) (M : zM) (hM : M 95 1 = (c : Int)) (hp : M 95 2 = (pg : Int)) (hmem : M 95 3 = (mem : Int)) (hL : zRow M f L) : Mt l 6 yX8_sort cX8_sort 6 (some .int) (fun ad => [.ref (ad (95)), .int (jI ((f : Int))), .int (jI (bI rep)), .int (jI (bI least)), .int (jI (0))]) M (fun _ vv M' => ∃ x : Int, vv = some (.int (jI x)) ∧ (x = (c : Int) ∧ zRow M' c (srL L) ∧ M' 95 1 = (c : Int) + 1 ∧ M' 95 2 = M 95 2 ∧ M' 95 3 = M 95 3 ∧ M' 95 4 + M' 95 5 = M 95 4 + M 95 5 + csL L rep least pg mem ∧ zPl M' 0 (pg : Int) (mkR L rep (mem * pg)) (mkZ L rep least pg mem) ∧ zOs M M' c)) := by
  refine Mt.of (fun ad => [some (.ref (ad (95))), some (.int (jI ((f : Int)))), some (.int (jI (bI rep))), some (.int (jI (bI least))), some (.int (jI (0))), none]) (by decide +kernel) (fun _ => rfl) (fun _ => rfl) (fun _ => Nat.le_of_ble_eq_true rfl) fun X hX C hR => ?_
  subst hX
  show G X M 0 [some (.ref ((zA X) (95))), some (.int (jI ((f : Int)))), some (.int (jI (bI rep))), some (.int (jI (bI least))), some (.int (jI (0))), none] []
  refine g_aload_n C dX8_sort_0 rfl ?_
  refine g_iload_n C dX8_sort_1 rfl ?_
  refine gc_rowOf C (by decide) tw_365 (Nat.le_of_ble_eq_true rfl) rfl dX8_sort_2 f hf (by omega) hM (?_)
  refine g_astore C dX8_sort_5 (Nat.le_of_ble_eq_true rfl) ?_
  show G X _ 7 [_, _, _, _, _, _] _
  refine g_aload_n C dX8_sort_7 rfl ?_
  refine gc_needRoom C (by decide) tw_337 (Nat.le_of_ble_eq_true rfl) rfl dX8_sort_8 c hc hM (?_)
  refine g_aload_n C dX8_sort_11 rfl ?_
  refine gf_Ms_latest C tw_221 dX8_sort_12 ?_
  refine g_aload C dX8_sort_15 rfl ?_
  refine g_iload_n C dX8_sort_17 rfl ?_
  show G X _ 18 _ _
  refine g_iload_n C dX8_sort_18 rfl ?_
  refine g_iload C dX8_sort_19 rfl ?_
  refine g_aload_n C dX8_sort_21 rfl ?_
  refine gf_Ms_page C tw_216 dX8_sort_22 ?_
  rw [hp]
  refine g_aload_n C dX8_sort_25 rfl ?_
  refine gf_Ms_memory C tw_217 dX8_sort_26 ?_
  rw [hmem]
  show G X _ 29 _ _
  refine gc_Plan_make C (by decide) tw_488 (Nat.le_of_ble_eq_true rfl) rfl dX8_sort_29 (r := 0) (q := f) (by omega) (by omega) rep least pg mem hpg hm hb hn hL (fun N1 ⟨a1, a2⟩ => ?_)
  refine g_aload_n C dX8_sort_32 rfl ?_
  refine gf_Ms_outcome C tw_225 dX8_sort_33 ?_
  refine gc_Out_clear C (by decide) tw_592 (Nat.le_of_ble_eq_true rfl) rfl dX8_sort_36  (fun N2 ⟨b1, b2, b3, b4, b5⟩ => ?_)
  have a3 : zPl N2 0 (pg : Int) (mkR L rep (mem * pg)) (mkZ L rep least pg mem) := a1.same (by omega) (fun o h => b5 o (by omega) (by omega) (by omega) (by omega))
  refine g_aload_n C dX8_sort_39 rfl ?_
  refine gf_Ms_outcome C tw_225 dX8_sort_40 ?_
  show G X _ 43 _ _
  refine g_aload_n C dX8_sort_43 rfl ?_
  refine gf_Ms_latest C tw_221 dX8_sort_44 ?_
  refine gf_Plan_readPages C (by omega) tw_67 dX8_sort_47 ?_
  rw [show N2 (82 + 0) 3 = _ from a3.2.2.1]
  refine gp_Out_readPages C tw_160 dX8_sort_50 ?_
  refine g_aload_n C dX8_sort_53 rfl ?_
  refine gf_Ms_outcome C tw_225 dX8_sort_54 ?_
  show G X _ 57 _ _
  refine g_aload_n C dX8_sort_57 rfl ?_
  refine gf_Ms_latest C tw_221 dX8_sort_58 ?_
  refine gf_Plan_writtenPages C (by omega) tw_69 dX8_sort_61 ?_
  rw [show zu N2 89 2 (mkZ L rep least pg mem).2.1 (82 + 0) 4 = (mkZ L rep least pg mem).2.2.1 by rw [zu_o _ _ _ _ (by omega)]; exact a3.2.2.2.1]
  refine gp_Out_writtenPages C tw_162 dX8_sort_64 ?_
  refine g_aload_n C dX8_sort_67 rfl ?_
  refine g_aload C dX8_sort_68 rfl ?_
  show G X _ 70 _ _
  refine g_iload C dX8_sort_70 rfl ?_
  generalize hN3 : zu (zu N2 89 2 (mkZ L rep least pg mem).2.1) 89 3 (mkZ L rep least pg mem).2.2.1 = N3
  have c1 : ∀ o, o ≠ 89 → N3 o = N2 o := fun o h => by rw [← hN3, zu_o _ _ _ _ h, zu_o _ _ _ _ h]
  have c2 : N3 89 2 = (mkZ L rep least pg mem).2.1 ∧ N3 89 3 = (mkZ L rep least pg mem).2.2.1 ∧ N3 89 1 = N2 89 1 ∧ N3 89 4 = N2 89 4 := by rw [← hN3]; simp [zu_at]
  have c3 : ∀ o, (o < 60 ∨ 68 ≤ o) → o ≠ 76 → o ≠ 77 → o ≠ 82 → o ≠ 36 → o ≠ 37 → o ≠ 38 → o ≠ 89 → N3 o = M o := fun o a b d e f g i j => (c1 o j).trans ((b5 o f g i j).trans (a2 o a b d e))
  have c4 : zRow N3 f L := hL.same (fun o a b => c3 o (by omega) (by omega) (by omega) (by omega) (by omega) (by omega) (by omega) (by omega))
  refine gc_giveSorted C (by decide) tw_597 (Nat.le_of_ble_eq_true rfl) rfl dX8_sort_72 (q := f) (by omega) (by omega) (by omega) hb c4 ⟨b1.1.same (fun o a b => c1 o (by omega)), by rw [c2.2.2.1]; exact b1.2⟩ (fun N4 ⟨d1, d2, d3⟩ => ?_)
  refine g_aload_n C dX8_sort_75 rfl ?_
  have e95 : N4 95 = M 95 := (d3 95 (by omega) (by omega) (by omega) (by omega) (by omega) (by omega)).trans (c3 95 (by omega) (by omega) (by omega) (by omega) (by omega) (by omega) (by omega) (by omega))
  refine gc_land C (by decide) tw_610 (Nat.le_of_ble_eq_true rfl) rfl dX8_sort_76 c hc (by rw [e95]; exact hM) d1 (fun x N5 ⟨e0, e1, e2, e3, e4, e5, e6, e7, e8⟩ => ?_)
  refine g_iret C hR dX8_sort_79 ?_
  refine ⟨_, rfl, e0, e1, e2, by rw [e3, e95], by rw [e4, e95], ?_, ?_, ?_⟩
  · rw [e5, e6, e95, d2 2 (by omega), d2 3 (by omega), c2.1, c2.2.1]
    unfold csL
    omega
  · exact a3.same (by omega) (fun o h => (e8 o (by omega) (by omega) (by omega) (by omega)).trans ((d3 o (by omega) (by omega) (by omega) (by omega) (by omega) (by omega)).trans (c1 o (by omega))))
  · intro o g1 g2 g3 g4 g5 g6 g7 g8 g9 g10 g11 g12 g13 g14
    exact (e8 o g1 g2 g3 g8).trans ((d3 o g4 g5 g6 g7 g13 g14).trans (c3 o g9 g11 g12 g10 g4 g5 g6 g7))
theorem gc_sort {X : z_X} {cc : ByteArray} {own : String} {ret : Option FieldType} {dC nC : Nat} {M : zM} {pc : Nat} {lv : List (Option Value)} {st : List Value} (C : Cx cc own ret dC nC X) (hdep : 7 ≤ dC) {idx : Nat} (hl0 : Cond.methodLink own idx yX8_sort ∈ tT) (hcat : (st.map fun v => v.category).sum ≤ 8) (hlen : lv.length = nC) (hdec : decode cc pc = .ok (.invokevirtual idx, 3)) {c : Nat} (f : Nat) (hf : f < c) (hc : c < 12) {L : List (Int × Int)} (rep least : Bool) (pg mem : Nat) (hpg : 1 ≤ pg ∧ pg ≤ 100) (hm : 3 ≤ mem ∧ mem ≤ 12) (hb : zIn L) (hn : L.length ≤ 100) (hM : M 95 1 = (c : Int)) (hp : M 95 2 = (pg : Int)) (hmem : M 95 3 = (mem : Int)) (hL : zRow M f L) (kk : ∀ (x : Int) (M' : zM), (x = (c : Int) ∧ zRow M' c (srL L) ∧ M' 95 1 = (c : Int) + 1 ∧ M' 95 2 = M 95 2 ∧ M' 95 3 = M 95 3 ∧ M' 95 4 + M' 95 5 = M 95 4 + M 95 5 + csL L rep least pg mem ∧ zPl M' 0 (pg : Int) (mkR L rep (mem * pg)) (mkZ L rep least pg mem) ∧ zOs M M' c) → G X M' (pc + 3) lv (.int (jI x) :: st)) : G X M pc lv (.int (jI (0)) :: .int (jI (bI least)) :: .int (jI (bI rep)) :: .int (jI ((f : Int))) :: .ref (zA X (95)) :: st) := by
  refine g_callV (k := 4) (o := 95) C (c_sort (zL X) f hf hc rep least pg mem hpg hm hb hn M hM hp hmem hL) mfX8_sort hl0 ⟨rfl, by decide +kernel, by decide +kernel, by decide +kernel⟩ ⟨hdep, by decide⟩ (by omega) (fun _ _ _ _ => ze_ms) rfl rfl rfl rfl hcat hlen hdec (fun v M' h => ?_)
  obtain ⟨x, rfl, h⟩ := h
  exact kk x M' h
set_option maxHeartbeats 4000000 in
set_option maxRecDepth 10000 in
theorem c_costOf (l : Launch) {q : Nat} (hq : q < 20) {L : List (Int × Int)} (rep least : Bool) (pg mem : Nat) (hpg : 1 ≤ pg ∧ pg ≤ 100) (hm : 3 ≤ mem ∧ mem ≤ 12) (hb : zIn L) (hn : L.length ≤ 100) (M : zM) (hp : M 95 2 = (pg : Int)) (hL : zRow M q L) : Mt l 6 yX8_costOf cX8_costOf 5 (some .int) (fun ad => [.ref (ad (95)), .ref (ad (3 * q)), .int (jI (bI rep)), .int (jI (bI least)), .int (jI ((mem : Int)))]) M (fun _ vv M' => ∃ x : Int, vv = some (.int (jI x)) ∧ (x = csL L rep least pg mem ∧ zFp M M' 1)) := by
  refine Mt.of (fun ad => [some (.ref (ad (95))), some (.ref (ad (3 * q))), some (.int (jI (bI rep))), some (.int (jI (bI least))), some (.int (jI ((mem : Int))))]) (by decide +kernel) (fun _ => rfl) (fun _ => rfl) (fun _ => Nat.le_of_ble_eq_true rfl) fun X hX C hR => ?_
  subst hX
  show G X M 0 [some (.ref ((zA X) (95))), some (.ref ((zA X) (3 * q))), some (.int (jI (bI rep))), some (.int (jI (bI least))), some (.int (jI ((mem : Int))))] []
  refine g_aload_n C dX8_costOf_0 rfl ?_
  refine gf_Ms_trial C tw_222 dX8_costOf_1 ?_
  refine g_aload_n C dX8_costOf_4 rfl ?_
  refine g_iload_n C dX8_costOf_5 rfl ?_
  refine g_iload_n C dX8_costOf_6 rfl ?_
  refine g_iconst C dX8_costOf_7 ?_
  show G X _ 8 _ _
  refine g_aload_n C dX8_costOf_8 rfl ?_
  refine gf_Ms_page C tw_216 dX8_costOf_9 ?_
  rw [hp]
  refine g_iload C dX8_costOf_12 rfl ?_
  refine gc_Plan_make C (by decide) tw_488 (Nat.le_of_ble_eq_true rfl) rfl dX8_costOf_14 (r := 1) (by omega) hq rep least pg mem hpg hm hb hn hL (fun N1 ⟨a1, a2⟩ => ?_)
  refine g_aload_n C dX8_costOf_17 rfl ?_
  refine gf_Ms_trial C tw_222 dX8_costOf_18 ?_
  show G X _ 21 _ _
  refine gf_Plan_readPages C (by omega) tw_67 dX8_costOf_21 ?_
  rw [show N1 (82 + 1) 3 = _ from a1.2.2.1]
  refine g_aload_n C dX8_costOf_24 rfl ?_
  refine gf_Ms_trial C tw_222 dX8_costOf_25 ?_
  refine gf_Plan_writtenPages C (by omega) tw_69 dX8_costOf_28 ?_
  rw [show N1 (82 + 1) 4 = _ from a1.2.2.2.1]
  refine g_iadd C dX8_costOf_31 ?_
  refine g_iret C hR dX8_costOf_32 ?_
  exact ⟨_, rfl, rfl, a2⟩
theorem gc_costOf {X : z_X} {cc : ByteArray} {own : String} {ret : Option FieldType} {dC nC : Nat} {M : zM} {pc : Nat} {lv : List (Option Value)} {st : List Value} (C : Cx cc own ret dC nC X) (hdep : 7 ≤ dC) {idx : Nat} (hl0 : Cond.methodLink own idx yX8_costOf ∈ tT) (hcat : (st.map fun v => v.category).sum ≤ 8) (hlen : lv.length = nC) (hdec : decode cc pc = .ok (.invokevirtual idx, 3)) {q : Nat} (hq : q < 20) {L : List (Int × Int)} (rep least : Bool) (pg mem : Nat) (hpg : 1 ≤ pg ∧ pg ≤ 100) (hm : 3 ≤ mem ∧ mem ≤ 12) (hb : zIn L) (hn : L.length ≤ 100) (hp : M 95 2 = (pg : Int)) (hL : zRow M q L) (kk : ∀ (x : Int) (M' : zM), (x = csL L rep least pg mem ∧ zFp M M' 1) → G X M' (pc + 3) lv (.int (jI x) :: st)) : G X M pc lv (.int (jI ((mem : Int))) :: .int (jI (bI least)) :: .int (jI (bI rep)) :: .ref (zA X (3 * q)) :: .ref (zA X (95)) :: st) := by
  refine g_callV (k := 4) (o := 95) C (c_costOf (zL X) hq rep least pg mem hpg hm hb hn M hp hL) mfX8_costOf hl0 ⟨rfl, by decide +kernel, by decide +kernel, by decide +kernel⟩ ⟨hdep, by decide⟩ (by omega) (fun _ _ _ _ => ze_ms) rfl rfl rfl rfl hcat hlen hdec (fun v M' h => ?_)
  obtain ⟨x, rfl, h⟩ := h
  exact kk x M' h
set_option maxHeartbeats 4000000 in
set_option maxRecDepth 10000 in
theorem c_sortCost (l : Launch) {c : Nat} (f : Nat) (hf : f < c) (hc : c ≤ 12) {L : List (Int × Int)} (rep least : Bool) (pg mem : Nat) (hpg : 1 ≤ pg ∧ pg ≤ 100) (hm : 3 ≤ mem ∧ mem ≤ 12) (hb : zIn L) (hn : L.length ≤ 100) (M : zM) (hM : M 95 1 = (c : Int)) (hp : M 95 2 = (pg : Int)) (hL : zRow M f L) : Mt l 7 yX8_sortCost cX8_sortCost 6 (some .int) (fun ad => [.ref (ad (95)), .int (jI ((f : Int))), .int (jI (bI rep)), .int (jI (bI least)), .int (jI ((mem : Int)))]) M (fun _ vv M' => ∃ x : Int, vv = some (.int (jI x)) ∧ (x = csL L rep least pg mem ∧ zFp M M' 1)) := by
  refine Mt.of (fun ad => [some (.ref (ad (95))), some (.int (jI ((f : Int)))), some (.int (jI (bI rep))), some (.int (jI (bI least))), some (.int (jI ((mem : Int)))), none]) (by decide +kernel) (fun _ => rfl) (fun _ => rfl) (fun _ => Nat.le_of_ble_eq_true rfl) fun X hX C hR => ?_
  subst hX
  show G X M 0 [some (.ref ((zA X) (95))), some (.int (jI ((f : Int)))), some (.int (jI (bI rep))), some (.int (jI (bI least))), some (.int (jI ((mem : Int)))), none] []
  refine g_aload_n C dX8_sortCost_0 rfl ?_
  refine g_iload_n C dX8_sortCost_1 rfl ?_
  refine gc_rowOf C (by decide) tw_365 (Nat.le_of_ble_eq_true rfl) rfl dX8_sortCost_2 f hf hc hM (?_)
  refine g_astore C dX8_sortCost_5 (Nat.le_of_ble_eq_true rfl) ?_
  show G X _ 7 [_, _, _, _, _, _] _
  refine g_iload C dX8_sortCost_7 rfl ?_
  refine gc_needMemory C (by decide) tw_329 (Nat.le_of_ble_eq_true rfl) rfl dX8_sortCost_9 _ (by omega) (?_)
  refine g_aload_n C dX8_sortCost_12 rfl ?_
  refine g_aload C dX8_sortCost_13 rfl ?_
  refine g_iload_n C dX8_sortCost_15 rfl ?_
  refine g_iload_n C dX8_sortCost_16 rfl ?_
  show G X _ 17 _ _
  refine g_iload C dX8_sortCost_17 rfl ?_
  refine gc_costOf C (by decide) tw_804 (Nat.le_of_ble_eq_true rfl) rfl dX8_sortCost_19 (by omega) rep least pg mem hpg hm hb hn hp hL (fun x N1 ⟨a1, a2⟩ => ?_)
  refine g_iret C hR dX8_sortCost_22 ?_
  exact ⟨_, rfl, a1, a2⟩
theorem gc_sortCost {X : z_X} {cc : ByteArray} {own : String} {ret : Option FieldType} {dC nC : Nat} {M : zM} {pc : Nat} {lv : List (Option Value)} {st : List Value} (C : Cx cc own ret dC nC X) (hdep : 8 ≤ dC) {idx : Nat} (hl0 : Cond.methodLink own idx yX8_sortCost ∈ tT) (hcat : (st.map fun v => v.category).sum ≤ 8) (hlen : lv.length = nC) (hdec : decode cc pc = .ok (.invokevirtual idx, 3)) {c : Nat} (f : Nat) (hf : f < c) (hc : c ≤ 12) {L : List (Int × Int)} (rep least : Bool) (pg mem : Nat) (hpg : 1 ≤ pg ∧ pg ≤ 100) (hm : 3 ≤ mem ∧ mem ≤ 12) (hb : zIn L) (hn : L.length ≤ 100) (hM : M 95 1 = (c : Int)) (hp : M 95 2 = (pg : Int)) (hL : zRow M f L) (kk : ∀ (x : Int) (M' : zM), (x = csL L rep least pg mem ∧ zFp M M' 1) → G X M' (pc + 3) lv (.int (jI x) :: st)) : G X M pc lv (.int (jI ((mem : Int))) :: .int (jI (bI least)) :: .int (jI (bI rep)) :: .int (jI ((f : Int))) :: .ref (zA X (95)) :: st) := by
  refine g_callV (k := 4) (o := 95) C (c_sortCost (zL X) f hf hc rep least pg mem hpg hm hb hn M hM hp hL) mfX8_sortCost hl0 ⟨rfl, by decide +kernel, by decide +kernel, by decide +kernel⟩ ⟨hdep, by decide⟩ (by omega) (fun _ _ _ _ => ze_ms) rfl rfl rfl rfl hcat hlen hdec (fun v M' h => ?_)
  obtain ⟨x, rfl, h⟩ := h
  exact kk x M' h
set_option maxHeartbeats 4000000 in
set_option maxRecDepth 10000 in
theorem c_memoryFor (l : Launch) {c : Nat} (f : Nat) (hf : f < c) (hc : c ≤ 12) {L : List (Int × Int)} (rep : Bool) (pg k : Nat) (hpg : 1 ≤ pg ∧ pg ≤ 100) (hk : k ≤ 100) (hb : zIn L) (hn : L.length ≤ 100) (M : zM) (hM : M 95 1 = (c : Int)) (hp : M 95 2 = (pg : Int)) (hL : zRow M f L) : Mt l 6 yX8_memoryFor cX8_memoryFor 6 (some .int) (fun ad => [.ref (ad (95)), .int (jI ((f : Int))), .int (jI (bI rep)), .int (jI ((k : Int)))]) M (fun _ vv M' => ∃ x : Int, vv = some (.int (jI x)) ∧ ((∀ mm : Nat, 3 ≤ mm → mm ≤ 12 → (mkZ L rep false pg mm).2.2.2.2.length ≤ k → x ≤ (mm : Int)) ∧ (-1 ≤ x ∧ x ≤ 12) ∧ zFp M M' 1)) := by
  refine Mt.of (fun ad => [some (.ref (ad (95))), some (.int (jI ((f : Int)))), some (.int (jI (bI rep))), some (.int (jI ((k : Int)))), none, none]) (by decide +kernel) (fun _ => rfl) (fun _ => rfl) (fun _ => Nat.le_of_ble_eq_true rfl) fun X hX C hR => ?_
  subst hX
  show G X M 0 [some (.ref ((zA X) (95))), some (.int (jI ((f : Int)))), some (.int (jI (bI rep))), some (.int (jI ((k : Int)))), none, none] []
  have lp : ∀ (fk : Nat) (s : Nat) (N : zM), 20 - s < fk → 3 ≤ s → s ≤ 13 → (∀ mm : Nat, 3 ≤ mm → mm < s → ¬ (mkZ L rep false pg mm).2.2.2.2.length ≤ k) → zFp M N 1 → G X N 31 [some (.ref (zA X 95)), some (.int (jI (f : Int))), some (.int (jI (bI rep))), some (.int (jI (k : Int))), some (.ref (zA X (3 * f))), some (.int (jI (s : Int)))] [] := by
    intro fk
    induction fk with
    | zero => intro s N hk; exact absurd hk (Nat.not_lt_zero _)
    | succ fk ih =>
      intro s N hk s1 s2 s3 hF
      refine g_iload C dX8_memoryFor_31 rfl ?_
      refine g_bipush C dX8_memoryFor_33 rfl ?_
      refine g_icmp_gt (tgt := 79) C dX8_memoryFor_35 rfl (by omega) (by omega) (fun h35 => ?_) (fun h35 => ?_)
      · refine g_iconst C dX8_memoryFor_79 ?_
        refine g_iret C hR dX8_memoryFor_80 ?_
        refine ⟨_, rfl, fun mm q1 q2 q3 => absurd q3 (s3 mm q1 (by omega)), by omega, hF⟩
      · refine g_aload_n C dX8_memoryFor_38 rfl ?_
        refine gf_Ms_trial C tw_222 dX8_memoryFor_39 ?_
        refine g_aload C dX8_memoryFor_42 rfl ?_
        refine g_iload_n C dX8_memoryFor_44 rfl ?_
        refine g_iconst C dX8_memoryFor_45 ?_
        refine g_iconst C dX8_memoryFor_46 ?_
        show G X _ 47 _ _
        refine g_aload_n C dX8_memoryFor_47 rfl ?_
        refine gf_Ms_page C tw_216 dX8_memoryFor_48 ?_
        rw [hF 95 (by omega) (by omega) (by omega) (by omega), hp]
        refine g_iload C dX8_memoryFor_51 rfl ?_
        refine gc_Plan_make C (by decide) tw_488 (Nat.le_of_ble_eq_true rfl) rfl dX8_memoryFor_53 (r := 1) (q := f) (by omega) (by omega) rep false pg s hpg (by omega) hb hn (hL.same (fun o a b => hF o (by omega) (by omega) (by omega) (by omega))) (fun N2 ⟨a1, a2⟩ => ?_)
        have hl2 := a1.2.2.2.2.2.1.2.1
        refine g_aload_n C dX8_memoryFor_56 rfl ?_
        refine gf_Ms_trial C tw_222 dX8_memoryFor_57 ?_
        show G X _ 60 _ _
        refine gf_Plan_mergeSizes C (by omega) tw_65 dX8_memoryFor_60 ?_
        refine gc_Num_count C (by decide) tw_624 (Nat.le_of_ble_eq_true rfl) rfl dX8_memoryFor_63 (r := 4 * 1 + 2) (by omega) a1.2.2.2.2.2.1 (?_)
        refine g_iload_n C dX8_memoryFor_66 rfl ?_
        refine g_icmp_gt (tgt := 73) C dX8_memoryFor_67 rfl (by omega) (by omega) (fun h67 => ?_) (fun h67 => ?_)
        · refine g_iinc C dX8_memoryFor_73 rfl ?_
          show G X _ 76 [_, _, _, _, _, _] _
          refine g_goto (tgt := 31) C dX8_memoryFor_76 rfl ?_
          show G X _ 31 _ _
          refine ih (s + 1) N2 (by omega) (by omega) (by omega) (fun mm q1 q2 => ?_) (hF.trans a2)
          rcases Nat.lt_or_ge mm s with q | q
          · exact s3 mm q1 q
          · obtain rfl : mm = s := by omega
            omega
        · refine g_iload C dX8_memoryFor_70 rfl ?_
          refine g_iret C hR dX8_memoryFor_72 ?_
          refine ⟨_, rfl, fun mm q1 q2 q3 => ?_, by omega, hF.trans a2⟩
          rcases Nat.lt_or_ge mm s with q | q
          · exact absurd q3 (s3 mm q1 q)
          · omega
  refine g_aload_n C dX8_memoryFor_0 rfl ?_
  refine g_iload_n C dX8_memoryFor_1 rfl ?_
  refine gc_rowOf C (by decide) tw_365 (Nat.le_of_ble_eq_true rfl) rfl dX8_memoryFor_2 f hf hc hM (?_)
  refine g_astore C dX8_memoryFor_5 (Nat.le_of_ble_eq_true rfl) ?_
  show G X _ 7 [_, _, _, _, _, _] _
  refine g_iload_n C dX8_memoryFor_7 rfl ?_
  refine g_if_lt (tgt := 17) C dX8_memoryFor_8 rfl (by omega) (fun h8 => ?_) (fun h8 => ?_)
  · omega
  · refine g_iload_n C dX8_memoryFor_11 rfl ?_
    refine g_bipush C dX8_memoryFor_12 rfl ?_
    refine g_icmp_le (tgt := 28) C dX8_memoryFor_14 rfl (by omega) (by omega) (fun h14 => ?_) (fun h14 => ?_)
    · refine g_iconst C dX8_memoryFor_28 ?_
      refine g_istore C dX8_memoryFor_29 (Nat.le_of_ble_eq_true rfl) ?_
      show G X _ 31 [_, _, _, _, _, _] _
      exact lp 30 3 M (by omega) (by omega) (by omega) (fun mm q1 q2 => by omega) zFp.refl
    · omega
theorem gc_memoryFor {X : z_X} {cc : ByteArray} {own : String} {ret : Option FieldType} {dC nC : Nat} {M : zM} {pc : Nat} {lv : List (Option Value)} {st : List Value} (C : Cx cc own ret dC nC X) (hdep : 7 ≤ dC) {idx : Nat} (hl0 : Cond.methodLink own idx yX8_memoryFor ∈ tT) (hcat : (st.map fun v => v.category).sum ≤ 8) (hlen : lv.length = nC) (hdec : decode cc pc = .ok (.invokevirtual idx, 3)) {c : Nat} (f : Nat) (hf : f < c) (hc : c ≤ 12) {L : List (Int × Int)} (rep : Bool) (pg k : Nat) (hpg : 1 ≤ pg ∧ pg ≤ 100) (hk : k ≤ 100) (hb : zIn L) (hn : L.length ≤ 100) (hM : M 95 1 = (c : Int)) (hp : M 95 2 = (pg : Int)) (hL : zRow M f L) (kk : ∀ (x : Int) (M' : zM), ((∀ mm : Nat, 3 ≤ mm → mm ≤ 12 → (mkZ L rep false pg mm).2.2.2.2.length ≤ k → x ≤ (mm : Int)) ∧ (-1 ≤ x ∧ x ≤ 12) ∧ zFp M M' 1) → G X M' (pc + 3) lv (.int (jI x) :: st)) : G X M pc lv (.int (jI ((k : Int))) :: .int (jI (bI rep)) :: .int (jI ((f : Int))) :: .ref (zA X (95)) :: st) := by
  refine g_callV (k := 3) (o := 95) C (c_memoryFor (zL X) f hf hc rep pg k hpg hk hb hn M hM hp hL) mfX8_memoryFor hl0 ⟨rfl, by decide +kernel, by decide +kernel, by decide +kernel⟩ ⟨hdep, by decide⟩ (by omega) (fun _ _ _ _ => ze_ms) rfl rfl rfl rfl hcat hlen hdec (fun v M' h => ?_)
  obtain ⟨x, rfl, h⟩ := h
  exact kk x M' h
