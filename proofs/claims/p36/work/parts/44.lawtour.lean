/-! the law: the tournament -/
def sP (P : Nat → Nat) : Nat := P 0 + P 1 + P 2 + P 3 + P 4
theorem sP_up {P : Nat → Nat} {f : Nat} (hf : f < 5) : sP (va_up P f (P f + 1)) = sP P + 1 := by
  rcases (show f = 0 ∨ f = 1 ∨ f = 2 ∨ f = 3 ∨ f = 4 by omega) with rfl | rfl | rfl | rfl | rfl <;> simp [sP, va_up] <;> omega
/-- before a record is asked for -/
def zTw (M : zM) (F : Nat → List (Int × Int)) (P : Nat → Nat) (last : Int) : Prop := zTs M F P ∧ M 84 3 = 7 + 3 * (sP P : Int) ∧ (-1000 ≤ last ∧ last ≤ 999) ∧ ∀ i, i < 5 → P i < (F i).length → last ≤ kA (F i) (P i)
theorem tk_least {F : Nat → List (Int × Int)} {P : Nat → Nat} {j : Nat} (hj : j < 8) : tk F P (wN (rk F P) 1) ≤ tk F P j := by
  have h := wN_min (rk F P) j hj
  have h2 := wN_in (rk F P) (n := 1) (by omega) (by omega)
  unfold below_ at h2
  generalize wN (rk F P) 1 = w at h h2 ⊢
  unfold rk at h
  omega
set_option maxHeartbeats 4000000 in
set_option maxRecDepth 10000 in
theorem lw_tour {X : z_X} (C : Cx cL_law RL (some .boolean) 100 18 X) (hend : zHend X) {n pg mem : Nat} {L0 L1 : List (Int × Int)} (H : lwH n L0 L1 pg mem) {M : zM} (hS : zSt M 6 pg mem (lwF L0 L1 pg mem)) : G X M 546 [none, some (.ref (zA X 95)), none, none, some (.int (jI (n : Int))), none, none, none, none, none, none, none, none, none, none, none, none, none] [] := by
  have H0 := H
  obtain ⟨hb0, hb1, hl0, hn, hl1, hl2, hpg, hm⟩ := H
  have hA := srL_len L0
  have hB := srL_len L1
  have bA := srL_in (L := L0) (by omega) hb0
  have bB := srL_in (L := L1) (by omega) hb1
  have uA := srL_up (L := L0) (by omega)
  have uB := srL_up (L := L1) (by omega)
  obtain ⟨F, hF⟩ : ∃ F, F = (fun i => lwF L0 L1 pg mem (2 + i)) := ⟨_, rfl⟩
  have hF4 : ∀ i, i < 4 → F i = srL L0 := fun i hi => by
    rw [hF]; show lwF L0 L1 pg mem (2 + i) = _
    unfold lwF
    rw [if_neg (by omega), if_neg (by omega), if_pos (by omega)]
  have hF5 : F 4 = srL L1 := by rw [hF]; rfl
  have hFi : ∀ i, i < 5 → zIn (F i) ∧ upB (F i) = true := fun i hi => by
    by_cases q : i < 4
    · rw [hF4 i q]; exact ⟨bA, uA⟩
    · rw [show i = 4 by omega, hF5]; exact ⟨bB, uB⟩
  have hsum : (F 0).length + (F 1).length + (F 2).length + (F 3).length + (F 4).length = 4 * n + L1.length := by
    rw [hF4 0 (by omega), hF4 1 (by omega), hF4 2 (by omega), hF4 3 (by omega), hF5]; omega
  have step : ∀ (P : Nat → Nat) (last : Int) (N N' : zM) (x : Int), zTw N F P last → zSt N 7 pg mem (lwF L0 L1 pg mem) → (x = tk F P (wN (rk F P) 1) ∧ ((tk F P (wN (rk F P) 1) = 1000 ∧ N' = N) ∨ (wN (rk F P) 1 < 5 ∧ P (wN (rk F P) 1) < (F (wN (rk F P) 1)).length ∧ zTs N' F (va_up P (wN (rk F P) 1) (P (wN (rk F P) 1) + 1)) ∧ N' 84 3 = N 84 3 + 3 ∧ ∀ o, o ≠ 84 → o ≠ 86 → o ≠ 87 → N' o = N o))) →
      (x = 1000 ∧ N' = N ∧ sP P = 4 * n + L1.length) ∨ (-999 ≤ x ∧ x ≤ 999 ∧ last ≤ x ∧ ∃ P' : Nat → Nat, sP P' = sP P + 1 ∧ zTw N' F P' x ∧ zSt N' 7 pg mem (lwF L0 L1 pg mem)) := by
    intro P last N N' x hw hst hx
    obtain ⟨rfl, hx2⟩ := hx
    have hti := tk_in (F := F) (P := P) (fun i hi => (hFi i hi).1)
    rcases hx2 with ⟨h1, rfl⟩ | ⟨h1, h2, h3, h4, h5⟩
    · refine Or.inl ⟨h1, rfl, ?_⟩
      have hall : ∀ i, i < 5 → P i = (F i).length := fun i hi => by
        have a := tk_least (F := F) (P := P) (j := i) (by omega)
        have b := hti i
        have c := (hw.1.1.2.2 i hi).2.2.1
        have d : ¬ (i < 5 ∧ P i < (F i).length) := b.2.2.mp (by omega)
        omega
      unfold sP
      rw [hall 0 (by omega), hall 1 (by omega), hall 2 (by omega), hall 3 (by omega), hall 4 (by omega)]
      exact hsum
    · obtain ⟨f, hf⟩ : ∃ f, f = wN (rk F P) 1 := ⟨_, rfl⟩
      have hleast : ∀ j, j < 8 → tk F P f ≤ tk F P j := fun j hj => by rw [hf]; exact tk_least hj
      rw [← hf] at h1 h2 h3 ⊢
      have e : tk F P f = kA (F f) (P f) := by unfold tk; rw [if_pos ⟨h1, h2⟩]
      have b := (hFi f h1).1.at (P f)
      refine Or.inr ⟨by omega, by omega, by rw [e]; exact hw.2.2.2 f h1 h2, _, sP_up h1, ⟨h3, ?_, by omega, fun i hi hlt => ?_⟩, hst.same (h5 95 (by omega) (by omega) (by omega)) (fun o h => h5 o (by omega) (by omega) (by omega))⟩
      · rw [h4, hw.2.1, sP_up h1]; omega
      · by_cases q : i = f
        · subst q
          rw [show va_up P i (P i + 1) i = P i + 1 by simp [va_up]] at hlt ⊢
          rw [e]
          exact up_le (hFi i hi).2 (P i) (P i + 1) (by omega) hlt
        · rw [show va_up P f (P f + 1) i = P i by simp [va_up, q]] at hlt ⊢
          have := hleast i (by omega)
          rw [show tk F P i = kA (F i) (P i) by unfold tk; rw [if_pos ⟨hi, hlt⟩]] at this
          exact this
  have hcap : ∀ (P : Nat → Nat) (last : Int) (N : zM), zTw N F P last → sP P ≤ 4 * n + L1.length := fun P last N hw => by
    have c := fun i hi => (hw.1.1.2.2 i hi).2.2.1
    have c0 := c 0 (by omega)
    have c1 := c 1 (by omega)
    have c2 := c 2 (by omega)
    have c3 := c 3 (by omega)
    have c4 := c 4 (by omega)
    unfold sP; omega
  have wlt : ∀ P : Nat → Nat, wN (rk F P) 1 < 8 := fun P => by
    have h2 := wN_in (rk F P) (n := 1) (by omega) (by omega)
    unfold below_ at h2
    omega
  have lp : ∀ (fk : Nat) (P : Nat → Nat) (last x : Int) (N N0 : zM), 1000 - sP P < fk → zTw N0 F P last → zSt N0 7 pg mem (lwF L0 L1 pg mem) → ((x = 1000 ∧ N = N0 ∧ sP P = 4 * n + L1.length) ∨ (-999 ≤ x ∧ x ≤ 999 ∧ last ≤ x ∧ ∃ P' : Nat → Nat, sP P' = sP P + 1 ∧ zTw N F P' x ∧ zSt N 7 pg mem (lwF L0 L1 pg mem))) → G X N 595 [none, some (.ref (zA X 95)), none, none, some (.int (jI (n : Int))), none, none, none, some (.int (jI last)), some (.int (jI (sP P : Int))), some (.int (jI x)), none, none, none, none, none, none, none] [] := by
    intro fk
    induction fk with
    | zero => intro P last x N N0 hk; exact absurd hk (Nat.not_lt_zero _)
    | succ fk ih =>
      intro P last x N N0 hk hw hst hc
      have hlast := hw.2.2.1
      have hxb : -1000 ≤ x ∧ x ≤ 1000 := by rcases hc with h | h <;> omega
      refine g_iload C dL_law_595 rfl ?_
      refine g_sipush C dL_law_597 rfl ?_
      refine g_icmp_ge (tgt := 628) C dL_law_600 rfl (by omega) (by omega) (fun h600 => ?_) (fun h600 => ?_)
      · obtain ⟨c1, rfl, c3⟩ : x = 1000 ∧ N = N0 ∧ sP P = 4 * n + L1.length := by
          rcases hc with h | h
          · exact h
          · omega
        have r6 : zRow N 6 (srL L1) := hst.row (by omega) rfl
        refine g_iload C dL_law_628 rfl ?_
        refine g_iconst C dL_law_630 ?_
        refine g_iload C dL_law_631 rfl ?_
        refine g_imul C dL_law_633 ?_
        refine g_aload_n C dL_law_634 rfl ?_
        refine g_bipush C dL_law_635 rfl ?_
        show G X _ 637 _ _
        refine gc_size C (by decide) tw_414 (Nat.le_of_ble_eq_true rfl) rfl dL_law_637 6 (by omega) (by omega) hst.1 r6 (?_)
        refine g_iadd C dL_law_640 ?_
        refine g_icmp_ne (tgt := 658) C dL_law_641 rfl (by omega) (by omega) (fun h641 => ?_) (fun h641 => ?_)
        · omega
        · refine g_aload_n C dL_law_644 rfl ?_
          refine gc_matches C (by decide) tw_706 (Nat.le_of_ble_eq_true rfl) rfl dL_law_645 (Or.inr hw.1.2.1) (?_)
          rw [if_neg (by rw [hw.1.2.1]; decide), hw.2.1]
          refine g_bipush C dL_law_648 rfl ?_
          refine g_iconst C dL_law_650 ?_
          refine g_iload C dL_law_651 rfl ?_
          refine g_imul C dL_law_653 ?_
          show G X _ 654 _ _
          refine g_iadd C dL_law_654 ?_
          refine g_icmp_eq (tgt := 660) C dL_law_655 rfl (by omega) (by omega) (fun h655 => ?_) (fun h655 => ?_)
          · refine g_mask [false, true, false, false, true, false, false, false, false, false, false, false, false, false, false, false, false, false] rfl ?_
            show G X _ 660 [_, _, _, _, _, _, _, _, _, _, _, _, _, _, _, _, _, _] _
            exact lw_pairs C hend H0 hst
          · omega
      · obtain ⟨c1, c2, c3, P', c4, c5, c6⟩ : (-999 ≤ x ∧ x ≤ 999 ∧ last ≤ x ∧ ∃ P' : Nat → Nat, sP P' = sP P + 1 ∧ zTw N F P' x ∧ zSt N 7 pg mem (lwF L0 L1 pg mem)) := by
          rcases hc with h | h
          · omega
          · exact h
        have hcp := hcap _ _ _ c5
        refine g_iload C dL_law_603 rfl ?_
        refine g_iload C dL_law_605 rfl ?_
        refine g_icmp_ge (tgt := 612) C dL_law_607 rfl (by omega) (by omega) (fun h607 => ?_) (fun h607 => ?_)
        · refine g_iload C dL_law_612 rfl ?_
          refine g_istore C dL_law_614 (Nat.le_of_ble_eq_true rfl) ?_
          show G X _ 616 [_, _, _, _, _, _, _, _, _, _, _, _, _, _, _, _, _, _] _
          refine g_iinc C dL_law_616 rfl ?_
          show G X _ 619 [_, _, _, _, _, _, _, _, _, _, _, _, _, _, _, _, _, _] _
          refine g_aload_n C dL_law_619 rfl ?_
          refine gc_next C (by decide) tw_689 (Nat.le_of_ble_eq_true rfl) rfl dL_law_620 (wN (rk F P') 1) (wlt P') rfl c5.1 (fun y N2 hy => ?_)
          refine g_istore C dL_law_623 (Nat.le_of_ble_eq_true rfl) ?_
          show G X _ 625 [_, _, _, _, _, _, _, _, _, _, _, _, _, _, _, _, _, _] _
          refine g_goto (tgt := 595) C dL_law_625 rfl ?_
          show G X _ 595 _ _
          clear hc
          rw [show (sP P : Int) + 1 = (sP P' : Int) by omega]
          exact ih P' x y N2 N (by omega) c5 c6 (step P' x N N2 y c5 c6 hy)
        · omega
  refine g_aload_n C dL_law_546 rfl ?_
  refine g_iconst C dL_law_547 ?_
  refine g_iconst C dL_law_548 ?_
  refine g_iconst C dL_law_549 ?_
  refine g_iconst C dL_law_550 ?_
  refine gc_sort C (by decide) tw_484 (Nat.le_of_ble_eq_true rfl) rfl dL_law_551 1 (by omega) (by omega) false false pg mem (by omega) (by omega) hb1 (by omega) hS.1 hS.2.1 hS.2.2.1 (hS.row (by omega) rfl) (fun x N1 ⟨a0, a1, a2, a3, a4, a5, a6, a7⟩ => ?_)
  have s1 : zSt N1 7 pg mem (lwF L0 L1 pg mem) := hS.next (by omega) a1 rfl a2 a3 a4 (fun o h1 h2 h3 h4 => a7 o h2 h3 h4 (by omega) (by omega) (by omega) (by omega) (by omega) (by omega) (by omega) (by omega) (by omega) (by omega) (by omega))
  show G X _ 554 _ _
  refine g_pop C dL_law_554 rfl ?_
  refine g_aload_n C dL_law_555 rfl ?_
  refine g_iconst C dL_law_556 ?_
  refine g_iconst C dL_law_557 ?_
  refine gc_begin C (by decide) tw_645 (Nat.le_of_ble_eq_true rfl) rfl dL_law_558 (c := 7) (by omega) (by omega) (F := F) s1.1 (fun i hi => ⟨by rw [hF]; exact s1.2.2.2.1 (2 + i) (by omega), (hFi i hi).1, (hFi i hi).2⟩) (fun x2 N2 ⟨b0, b1, b2, b3, b4⟩ => ?_)
  subst b0
  have s2 : zSt N2 7 pg mem (lwF L0 L1 pg mem) := s1.same (b4 95 (by omega) (by omega) (by omega) (by omega) (by omega)) (fun o h => b4 o (by omega) (by omega) (by omega) (by omega) (by omega))
  have w2 : zTw N2 F (fun _ => 0) (-1000) := ⟨b1, by rw [b2]; rfl, by omega, fun i hi _ => by have := (hFi i hi).1.at 0; show (-1000 : Int) ≤ kA (F i) 0; omega⟩
  refine g_istore C dL_law_561 (Nat.le_of_ble_eq_true rfl) ?_
  show G X _ 563 [_, _, _, _, _, _, _, _, _, _, _, _, _, _, _, _, _, _] _
  refine g_sipush C dL_law_563 rfl ?_
  refine g_istore C dL_law_566 (Nat.le_of_ble_eq_true rfl) ?_
  show G X _ 568 [_, _, _, _, _, _, _, _, _, _, _, _, _, _, _, _, _, _] _
  refine g_iconst C dL_law_568 ?_
  refine g_istore C dL_law_569 (Nat.le_of_ble_eq_true rfl) ?_
  show G X _ 571 [_, _, _, _, _, _, _, _, _, _, _, _, _, _, _, _, _, _] _
  refine g_iload C dL_law_571 rfl ?_
  refine g_bipush C dL_law_573 rfl ?_
  refine g_icmp_ne (tgt := 587) C dL_law_575 rfl (by omega) (by omega) (fun h575 => ?_) (fun h575 => ?_)
  · omega
  · refine g_aload_n C dL_law_578 rfl ?_
    refine gc_matches C (by decide) tw_706 (Nat.le_of_ble_eq_true rfl) rfl dL_law_579 (Or.inr b1.2.1) (?_)
    rw [if_neg (by rw [b1.2.1]; decide), b2]
    refine g_bipush C dL_law_582 rfl ?_
    refine g_icmp_eq (tgt := 589) C dL_law_584 rfl (by omega) (by omega) (fun h584 => ?_) (fun h584 => ?_)
    · refine g_aload_n C dL_law_589 rfl ?_
      refine gc_next C (by decide) tw_689 (Nat.le_of_ble_eq_true rfl) rfl dL_law_590 (wN (rk F (fun _ => 0)) 1) (wlt _) rfl b1 (fun y N3 hy => ?_)
      refine g_istore C dL_law_593 (Nat.le_of_ble_eq_true rfl) ?_
      show G X _ 595 [_, _, _, _, _, _, _, _, _, _, _, _, _, _, _, _, _, _] _
      refine g_mask [false, true, false, false, true, false, false, false, true, true, true, false, false, false, false, false, false, false] rfl ?_
      show G X _ 595 [_, _, _, _, _, _, _, _, _, _, _, _, _, _, _, _, _, _] _
      exact lp 2000 (fun _ => 0) (-1000) y N3 N2 (by omega) w2 s2 (step _ _ _ _ _ w2 s2 hy)
    · omega
