/-! the sorter's constructor: its loop, and what it makes -/
def msF (B : Nat → Nat) : Nat → Nat → Option Nat
  | 0 => fun _ => none
  | k + 1 => va_up (msF B k) k (some (B k))
def msR (C : ClassId × ClassId × ClassId) (B : Nat → Nat) (E : Nat → Nat → Nat) : Nat → va_W
  | 0 => []
  | k + 1 => msR C B E k ++ oRow C (B k) (E k)
theorem msF_ext {B B' : Nat → Nat} : ∀ k : Nat, (∀ i, i < k → B i = B' i) → msF B k = msF B' k
  | 0, _ => rfl
  | k + 1, h => by rw [msF, msF, msF_ext k (fun i hi => h i (by omega)), h k (by omega)]
theorem msF_at (B : Nat → Nat) : ∀ k j : Nat, j < k → msF B k j = some (B j)
  | 0, j, h => absurd h (by omega)
  | k + 1, j, h => by
    rw [msF]
    by_cases e : j = k
    · subst e; exact va_up_self _ _ _
    · rw [va_up_ne _ _ e]; exact msF_at B k j (by omega)
def msCut (n : Nat) (e : Nat → Nat) : Nat → Nat := fun i => if i < n then e i else 0
theorem msCut_ext {n : Nat} {e e' : Nat → Nat} (h : ∀ i, i < n → e i = e' i) : msCut n e = msCut n e' := by
  funext i
  unfold msCut
  by_cases hi : i < n
  · rw [if_pos hi, if_pos hi, h i hi]
  · rw [if_neg hi, if_neg hi]
theorem oRow_cut (C : ClassId × ClassId × ClassId) (a : Nat) (e : Nat → Nat) : oRow C a e = oRow C a (msCut 2 e) := rfl
theorem oRow_ext {C : ClassId × ClassId × ClassId} {a a' : Nat} {e e' : Nat → Nat} (ha : a = a') (h : ∀ i, i < 2 → e i = e' i) : oRow C a e = oRow C a' e' := by
  rw [oRow_cut C a e, msCut_ext h, ← oRow_cut C a e', ha]
theorem oPlan_cut (C : ClassId × ClassId × ClassId) (a : Nat) (e : Nat → Nat) : oPlan C a e = oPlan C a (msCut 10 e) := rfl
theorem oPlan_ext {C : ClassId × ClassId × ClassId} {a a' : Nat} {e e' : Nat → Nat} (ha : a = a') (h : ∀ i, i < 10 → e i = e' i) : oPlan C a e = oPlan C a' e' := by
  rw [oPlan_cut C a e, msCut_ext h, ← oPlan_cut C a e', ha]
theorem oHeap_cut (C : ClassId × ClassId × ClassId) (a : Nat) (e : Nat → Nat) : oHeap C a e = oHeap C a (msCut 1 e) := rfl
theorem oHeap_ext {C : ClassId × ClassId × ClassId} {a a' : Nat} {e e' : Nat → Nat} (ha : a = a') (h : ∀ i, i < 1 → e i = e' i) : oHeap C a e = oHeap C a' e' := by
  rw [oHeap_cut C a e, msCut_ext h, ← oHeap_cut C a e', ha]
theorem oTour_cut (C : ClassId × ClassId × ClassId) (a : Nat) (e : Nat → Nat) : oTour C a e = oTour C a (msCut 4 e) := rfl
theorem oTour_ext {C : ClassId × ClassId × ClassId} {a a' : Nat} {e e' : Nat → Nat} (ha : a = a') (h : ∀ i, i < 4 → e i = e' i) : oTour C a e = oTour C a' e' := by
  rw [oTour_cut C a e, msCut_ext h, ← oTour_cut C a e', ha]
theorem oOut_cut (C : ClassId × ClassId × ClassId) (a : Nat) (e : Nat → Nat) : oOut C a e = oOut C a (msCut 3 e) := rfl
theorem oOut_ext {C : ClassId × ClassId × ClassId} {a a' : Nat} {e e' : Nat → Nat} (ha : a = a') (h : ∀ i, i < 3 → e i = e' i) : oOut C a e = oOut C a' e' := by
  rw [oOut_cut C a e, msCut_ext h, ← oOut_cut C a e', ha]
theorem oSpl_cut (C : ClassId × ClassId × ClassId) (a : Nat) (e : Nat → Nat) : oSpl C a e = oSpl C a (msCut 23 e) := rfl
theorem oSpl_ext {C : ClassId × ClassId × ClassId} {a a' : Nat} {e e' : Nat → Nat} (ha : a = a') (h : ∀ i, i < 23 → e i = e' i) : oSpl C a e = oSpl C a' e' := by
  rw [oSpl_cut C a e, msCut_ext h, ← oSpl_cut C a e', ha]
theorem oKset_cut (C : ClassId × ClassId × ClassId) (a : Nat) (e : Nat → Nat) : oKset C a e = oKset C a (msCut 1 e) := rfl
theorem oKset_ext {C : ClassId × ClassId × ClassId} {a a' : Nat} {e e' : Nat → Nat} (ha : a = a') (h : ∀ i, i < 1 → e i = e' i) : oKset C a e = oKset C a' e' := by
  rw [oKset_cut C a e, msCut_ext h, ← oKset_cut C a e', ha]
theorem msR_ext {C : ClassId × ClassId × ClassId} {B B' : Nat → Nat} {E E' : Nat → Nat → Nat} : ∀ k : Nat, (∀ i, i < k → B i = B' i ∧ ∀ j, j < 2 → E i j = E' i j) → msR C B E k = msR C B' E' k
  | 0, _ => rfl
  | k + 1, h => by rw [msR, msR, msR_ext k (fun i hi => h i (by omega)), oRow_ext (h k (by omega)).1 (h k (by omega)).2]
theorem ms_turn {X : z_X} {w : va_W} (C : Cw cX8_init RX8 3 2 X) (k : Nat) (hk : k < 12) {cells slots a q : Nat} {fs : List Value} {f : Nat → Option Nat} {t0 : va_W} (hfs0 : fs[0]? = some (.ref q)) (hcs : cells + 3 ≤ zcs X) (hsl : slots + 243 ≤ zsl X)
    (kk : ∀ (b : Nat) (e : Nat → Nat), Gw X (w ++ ((a, .inr (8, fs)) :: (q, .inl ((zC X).2.2, 12, .inr (.inr (.inr (.inr (va_up f k (some b))))))) :: (t0 ++ oRow (zC X) b e))) (cells + 3) (slots + 243) 122 [some (.ref a), some (.int (jI ((k + 1 : Nat) : Int)))] []) :
    Gw X (w ++ ((a, .inr (8, fs)) :: (q, .inl ((zC X).2.2, 12, .inr (.inr (.inr (.inr f))))) :: t0)) cells slots 122 [some (.ref a), some (.int (jI (k : Int)))] [] := by
  refine h_iload_n C dX8_init_122 rfl ?_
  refine h_bipush C dX8_init_123 rfl ?_
  refine h_icmp_no (tgt := 147) C dX8_init_125 rfl (by rw [jI_le (by omega) (by omega)]; omega) ?_
  refine h_aload_n C dX8_init_128 rfl ?_
  refine h_getf C 0 (k := 0) rfl rfl uw_X8 (by decide) tw_214 hfs0 dX8_init_129 ?_
  refine h_iload_n C dX8_init_132 rfl ?_
  refine h_new (ci := 5) C tw_25 tw_140 tw_7 rfl uw_X5 tyX5_ok (fs := [.null, .null, .int (jI 0)]) (by decide +kernel) (by omega) (by omega) dX8_init_133 fun b => ?_
  refine h_dup C dX8_init_136 rfl ?_
  refine h_initN C (k_row (zL X)) (by decide) tw_143 tw_142 tw_7 rfl ⟨by decide +kernel, by decide +kernel, by decide +kernel⟩ ⟨by decide, by decide⟩ (by omega) (by omega) rfl (Nat.le_of_ble_eq_true rfl) dX8_init_137 fun e => ?_
  have hj : ((a, Sum.inr (8, fs)) :: (q, Sum.inl ((zC X).2.2, 12, Sum.inr (Sum.inr (Sum.inr (Sum.inr f))))) :: t0 ++ oRow (zC X) b e : va_W)[t0.length + 2]? = some (b, Sum.inr (5, [.ref (e 0), .ref (e 1), .int (jI 0)])) := by
    rw [List.getElem?_append_right (by simp)]
    simp [oRow]
  refine h_ast C 1 (t0.length + 2) k rfl hj hk (by decide) dX8_init_140 ?_
  refine h_iinc C dX8_init_141 rfl ?_
  refine h_goto (tgt := 122) C dX8_init_144 rfl ?_
  exact kk b e
theorem ms_loop {X : z_X} {w : va_W} (C : Cw cX8_init RX8 3 2 X) {a q : Nat} {fs : List Value} {t0 : va_W} (hfs0 : fs[0]? = some (.ref q))
    (kk : ∀ (B : Nat → Nat) (E : Nat → Nat → Nat), Gw X (w ++ ((a, .inr (8, fs)) :: (q, .inl ((zC X).2.2, 12, .inr (.inr (.inr (.inr (msF B 12)))))) :: (t0 ++ msR (zC X) B E 12))) (zcs X) (zsl X) 122 [some (.ref a), some (.int (jI ((12 : Nat) : Int)))] []) :
    ∀ (j k : Nat), k + j = 12 → ∀ (cells slots : Nat), cells + 3 * j = zcs X → slots + 243 * j = zsl X → ∀ (B : Nat → Nat) (E : Nat → Nat → Nat), Gw X (w ++ ((a, .inr (8, fs)) :: (q, .inl ((zC X).2.2, 12, .inr (.inr (.inr (.inr (msF B k)))))) :: (t0 ++ msR (zC X) B E k))) cells slots 122 [some (.ref a), some (.int (jI (k : Int)))] []
  | 0, k, hj, cells, slots, h1, h2, B, E => by
    have e1 : k = 12 := by omega
    have e2 : cells = zcs X := by omega
    have e3 : slots = zsl X := by omega
    subst e1 e2 e3
    exact kk B E
  | j + 1, k, hj, cells, slots, h1, h2, B, E => by
    refine ms_turn C k (by omega) hfs0 (by omega) (by omega) fun b e => ?_
    have h := ms_loop C hfs0 kk j (k + 1) (by omega) (cells + 3) (slots + 243) (by omega) (by omega) (fun i => if i = k then b else B i) (fun i => if i = k then e else E i)
    have f1 : msF (fun i => if i = k then b else B i) (k + 1) = va_up (msF B k) k (some b) := by
      rw [msF, msF_ext (B' := B) k (fun i hi => if_neg (by omega)), if_pos rfl]
    have f2 : msR (zC X) (fun i => if i = k then b else B i) (fun i => if i = k then e else E i) (k + 1) = msR (zC X) B E k ++ oRow (zC X) b e := by
      rw [msR, msR_ext (B' := B) (E' := E) k (fun i hi => ⟨if_neg (by omega), fun j _ => by rw [if_neg (show ¬ i = k by omega)]⟩), if_pos rfl, if_pos rfl]
    rw [f1, f2, ← List.append_assoc] at h
    exact h
def oMs (C : ClassId × ClassId × ClassId) (a : Nat) (as : Nat → Nat) : va_W := (a, .inr (8, [.ref (as 0), .int (jI 0), .int (jI 4), .int (jI 4), .int (jI 0), .int (jI 0), .int (jI 0), .ref (as 1), .ref (as 12), .ref (as 23), .ref (as 25), .ref (as 30), .ref (as 34), .ref (as 58)])) :: (as 0, .inl (C.2.2, 12, .inr (.inr (.inr (.inr (msF (fun i => as (60 + 3 * i)) 12)))))) :: ((oPlan C (as 1) (fun i => as (2 + i)) ++ oPlan C (as 12) (fun i => as (13 + i)) ++ oHeap C (as 23) (fun i => as (24 + i)) ++ oTour C (as 25) (fun i => as (26 + i)) ++ oOut C (as 30) (fun i => as (31 + i)) ++ oSpl C (as 34) (fun i => as (35 + i)) ++ oKset C (as 58) (fun i => as (59 + i))) ++ msR C (fun i => as (60 + 3 * i)) (fun i j => as (61 + 3 * i + j)) 12)
def msAs (q0 : Nat) (q1 : Nat) (e2 : Nat → Nat) (q3 : Nat) (e4 : Nat → Nat) (q5 : Nat) (e6 : Nat → Nat) (q7 : Nat) (e8 : Nat → Nat) (q9 : Nat) (e10 : Nat → Nat) (q11 : Nat) (e12 : Nat → Nat) (q13 : Nat) (e14 : Nat → Nat) (B : Nat → Nat) (E : Nat → Nat → Nat) : Nat → Nat := fun i => if i = 0 then q0 else if i = 1 then q1 else if i < 12 then e2 (i - 2) else if i = 12 then q3 else if i < 23 then e4 (i - 13) else if i = 23 then q5 else if i < 25 then e6 (i - 24) else if i = 25 then q7 else if i < 30 then e8 (i - 26) else if i = 30 then q9 else if i < 34 then e10 (i - 31) else if i = 34 then q11 else if i < 58 then e12 (i - 35) else if i = 58 then q13 else if i < 60 then e14 (i - 59) else if i % 3 = 0 then B (i / 3 - 20) else E (i / 3 - 20) (i % 3 - 1)
theorem oMs_at (C : ClassId × ClassId × ClassId) (a q0 : Nat) (q1 : Nat) (e2 : Nat → Nat) (q3 : Nat) (e4 : Nat → Nat) (q5 : Nat) (e6 : Nat → Nat) (q7 : Nat) (e8 : Nat → Nat) (q9 : Nat) (e10 : Nat → Nat) (q11 : Nat) (e12 : Nat → Nat) (q13 : Nat) (e14 : Nat → Nat) (B : Nat → Nat) (E : Nat → Nat → Nat) : oMs C a (msAs q0 q1 e2 q3 e4 q5 e6 q7 e8 q9 e10 q11 e12 q13 e14 B E) = (a, .inr (8, [.ref q0, .int (jI 0), .int (jI 4), .int (jI 4), .int (jI 0), .int (jI 0), .int (jI 0), .ref q1, .ref q3, .ref q5, .ref q7, .ref q9, .ref q11, .ref q13])) :: (q0, .inl (C.2.2, 12, .inr (.inr (.inr (.inr (msF B 12)))))) :: ((oPlan C q1 e2 ++ oPlan C q3 e4 ++ oHeap C q5 e6 ++ oTour C q7 e8 ++ oOut C q9 e10 ++ oSpl C q11 e12 ++ oKset C q13 e14) ++ msR C B E 12) := by
  have h0 : oPlan C (msAs q0 q1 e2 q3 e4 q5 e6 q7 e8 q9 e10 q11 e12 q13 e14 B E 1) (fun i => msAs q0 q1 e2 q3 e4 q5 e6 q7 e8 q9 e10 q11 e12 q13 e14 B E (2 + i)) = oPlan C q1 e2 := oPlan_ext rfl fun i hi => by
    unfold msAs
    rw [if_neg (by omega), if_neg (by omega), if_pos (by omega), show 2 + i - 2 = i by omega]
  have h1 : oPlan C (msAs q0 q1 e2 q3 e4 q5 e6 q7 e8 q9 e10 q11 e12 q13 e14 B E 12) (fun i => msAs q0 q1 e2 q3 e4 q5 e6 q7 e8 q9 e10 q11 e12 q13 e14 B E (13 + i)) = oPlan C q3 e4 := oPlan_ext rfl fun i hi => by
    unfold msAs
    rw [if_neg (by omega), if_neg (by omega), if_neg (by omega), if_neg (by omega), if_pos (by omega), show 13 + i - 13 = i by omega]
  have h2 : oHeap C (msAs q0 q1 e2 q3 e4 q5 e6 q7 e8 q9 e10 q11 e12 q13 e14 B E 23) (fun i => msAs q0 q1 e2 q3 e4 q5 e6 q7 e8 q9 e10 q11 e12 q13 e14 B E (24 + i)) = oHeap C q5 e6 := oHeap_ext rfl fun i hi => by
    unfold msAs
    rw [if_neg (by omega), if_neg (by omega), if_neg (by omega), if_neg (by omega), if_neg (by omega), if_neg (by omega), if_pos (by omega), show 24 + i - 24 = i by omega]
  have h3 : oTour C (msAs q0 q1 e2 q3 e4 q5 e6 q7 e8 q9 e10 q11 e12 q13 e14 B E 25) (fun i => msAs q0 q1 e2 q3 e4 q5 e6 q7 e8 q9 e10 q11 e12 q13 e14 B E (26 + i)) = oTour C q7 e8 := oTour_ext rfl fun i hi => by
    unfold msAs
    rw [if_neg (by omega), if_neg (by omega), if_neg (by omega), if_neg (by omega), if_neg (by omega), if_neg (by omega), if_neg (by omega), if_neg (by omega), if_pos (by omega), show 26 + i - 26 = i by omega]
  have h4 : oOut C (msAs q0 q1 e2 q3 e4 q5 e6 q7 e8 q9 e10 q11 e12 q13 e14 B E 30) (fun i => msAs q0 q1 e2 q3 e4 q5 e6 q7 e8 q9 e10 q11 e12 q13 e14 B E (31 + i)) = oOut C q9 e10 := oOut_ext rfl fun i hi => by
    unfold msAs
    rw [if_neg (by omega), if_neg (by omega), if_neg (by omega), if_neg (by omega), if_neg (by omega), if_neg (by omega), if_neg (by omega), if_neg (by omega), if_neg (by omega), if_neg (by omega), if_pos (by omega), show 31 + i - 31 = i by omega]
  have h5 : oSpl C (msAs q0 q1 e2 q3 e4 q5 e6 q7 e8 q9 e10 q11 e12 q13 e14 B E 34) (fun i => msAs q0 q1 e2 q3 e4 q5 e6 q7 e8 q9 e10 q11 e12 q13 e14 B E (35 + i)) = oSpl C q11 e12 := oSpl_ext rfl fun i hi => by
    unfold msAs
    rw [if_neg (by omega), if_neg (by omega), if_neg (by omega), if_neg (by omega), if_neg (by omega), if_neg (by omega), if_neg (by omega), if_neg (by omega), if_neg (by omega), if_neg (by omega), if_neg (by omega), if_neg (by omega), if_pos (by omega), show 35 + i - 35 = i by omega]
  have h6 : oKset C (msAs q0 q1 e2 q3 e4 q5 e6 q7 e8 q9 e10 q11 e12 q13 e14 B E 58) (fun i => msAs q0 q1 e2 q3 e4 q5 e6 q7 e8 q9 e10 q11 e12 q13 e14 B E (59 + i)) = oKset C q13 e14 := oKset_ext rfl fun i hi => by
    unfold msAs
    rw [if_neg (by omega), if_neg (by omega), if_neg (by omega), if_neg (by omega), if_neg (by omega), if_neg (by omega), if_neg (by omega), if_neg (by omega), if_neg (by omega), if_neg (by omega), if_neg (by omega), if_neg (by omega), if_neg (by omega), if_neg (by omega), if_pos (by omega), show 59 + i - 59 = i by omega]
  have hB : ∀ i : Nat, i < 12 → msAs q0 q1 e2 q3 e4 q5 e6 q7 e8 q9 e10 q11 e12 q13 e14 B E (60 + 3 * i) = B i := fun i _ => by
    unfold msAs
    rw [if_neg (by omega), if_neg (by omega), if_neg (by omega), if_neg (by omega), if_neg (by omega), if_neg (by omega), if_neg (by omega), if_neg (by omega), if_neg (by omega), if_neg (by omega), if_neg (by omega), if_neg (by omega), if_neg (by omega), if_neg (by omega), if_neg (by omega), if_pos (by omega), show (60 + 3 * i) / 3 - 20 = i by omega]
  have hE : ∀ i : Nat, i < 12 → ∀ j : Nat, j < 2 → msAs q0 q1 e2 q3 e4 q5 e6 q7 e8 q9 e10 q11 e12 q13 e14 B E (61 + 3 * i + j) = E i j := fun i _ j hj => by
    unfold msAs
    rw [if_neg (by omega), if_neg (by omega), if_neg (by omega), if_neg (by omega), if_neg (by omega), if_neg (by omega), if_neg (by omega), if_neg (by omega), if_neg (by omega), if_neg (by omega), if_neg (by omega), if_neg (by omega), if_neg (by omega), if_neg (by omega), if_neg (by omega), if_neg (by omega), show (61 + 3 * i + j) / 3 - 20 = i by omega, show (61 + 3 * i + j) % 3 - 1 = j by omega]
  unfold oMs
  rw [h0, h1, h2, h3, h4, h5, h6, msF_ext 12 hB, msR_ext (B' := B) (E' := E) 12 (fun i hi => ⟨hB i hi, hE i hi⟩)]
  rfl
