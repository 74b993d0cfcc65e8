/-! what splitting makes; groups -/
theorem kc_drop_take {b : List (Int × Int)} {u n : Nat} (h : u + n < b.length) (k : Int) : kc ((b.drop u).take (n + 1)) k = kc ((b.drop u).take n) k + (if kA b (u + n) = k then 1 else 0) := by
  have hl : n < (b.drop u).length := by rw [List.length_drop]; omega
  rw [List.take_succ, List.getElem?_eq_getElem hl, kc_app]
  show _ + kc [(b.drop u)[n]] k = _
  rw [kc_one, List.getElem_drop, ← kA_get (show u + n < b.length by omega)]
theorem pjL_kc {a b : List (Int × Int)} {i u : Nat} (k : Int) : ∀ n, u + n ≤ b.length → kc (pjL a b i u n) k = if kA a i = k then kc ((b.drop u).take n) k else 0
  | 0, _ => by simp [pjL, kc]
  | n + 1, h => by
    rw [pjL, kc_app, pjL_kc k n (by omega), kc_drop_take (by omega)]
    by_cases e : kA a i = k
    · rw [if_pos e, if_pos e]
      by_cases q : kA a i = kA b (u + n)
      · rw [if_pos q, kc_one, if_pos e, if_pos (q.symm.trans e)]
      · rw [if_neg q, if_neg (fun z => q (e.trans z.symm))]; rfl
    · rw [if_neg e, if_neg e]
      by_cases q : kA a i = kA b (u + n)
      · rw [if_pos q, kc_one]
        show _ + (if kA a i = k then 1 else 0) = _
        rw [if_neg e]
      · rw [if_neg q]; rfl
theorem piL_kc {a b : List (Int × Int)} {u w : Nat} (hw : u + w ≤ b.length) (k : Int) : ∀ i, i ≤ a.length → kc (piL a b u w i) k = kc (a.take i) k * kc ((b.drop u).take w) k
  | 0, _ => by simp [piL, kc]
  | i + 1, h => by
    rw [piL, kc_app, piL_kc hw k i (by omega), pjL_kc k w hw, kc_take a (by omega), Nat.add_mul]
    by_cases e : kA a i = k
    · rw [if_pos e, if_pos e]; omega
    · rw [if_neg e, if_neg e]; omega
theorem pbS_kc {a b : List (Int × Int)} {pg : Int} {ch : Nat} (hc : 1 ≤ ch) (k : Int) : ∀ (f u : Nat) (s : Int × List (Int × Int)), b.length ≤ u + f → kc (pbS a b pg ch f u s).2 k = kc s.2 k + kc a k * kc (b.drop u) k
  | 0, u, s, h => by
    rw [List.drop_eq_nil_of_le (by omega)]
    simp [pbS, kc]
  | f + 1, u, s, h => by
    rw [pbS]
    by_cases q : u < b.length
    · rw [if_pos q, pbS_kc hc k f (u + ch) _ (by omega)]
      show kc (s.2 ++ piL a b u (min (u + ch) b.length - u) a.length) k + _ = _
      rw [kc_app, piL_kc (by omega) k a.length (Nat.le_refl _), List.take_length, Nat.add_assoc, ← Nat.mul_add]
      congr 2
      have e : b.drop u = (b.drop u).take (min (u + ch) b.length - u) ++ b.drop (u + ch) := by
        conv => lhs; rw [← List.take_append_drop (min (u + ch) b.length - u) (b.drop u)]
        congr 1
        rw [List.drop_drop]
        by_cases z : u + ch ≤ b.length
        · congr 1; omega
        · rw [List.drop_eq_nil_of_le (by omega), List.drop_eq_nil_of_le (by omega)]
      conv => rhs; rw [e, kc_app]
    · rw [if_neg q, List.drop_eq_nil_of_le (by omega)]; simp [kc]
theorem spL_kc {f num : Int} {d : Nat} (L : List (Int × Int)) (k : Int) : kc (spL f d num L) k = if spN f d k = num then kc L k else 0 := by
  induction L with
  | nil => simp [spL, kc]
  | cons p t ih =>
    unfold spL at ih ⊢
    rw [List.filter_cons, kc_cons]
    by_cases q : spN f d p.1 = num
    · rw [if_pos (by simpa using q), kc_cons, ih]
      by_cases e : p.1 = k
      · rw [if_pos e, ← e, if_pos q, if_pos q]
      · rw [if_neg e]; rfl
    · rw [if_neg (by simpa using q), ih]
      by_cases e : p.1 = k
      · rw [if_pos e, ← e, if_neg q, if_neg q]
      · rw [if_neg e]; rfl
theorem spN_in {f : Int} (hf : 2 ≤ f) (d : Nat) (k : Int) : 0 ≤ spN f d k ∧ spN f d k < f := by
  unfold spN
  exact ⟨Int.emod_nonneg _ (by omega), Int.emod_lt_of_pos _ (by omega)⟩
theorem kc_zero {a : List (Int × Int)} (h : a.length = 0) (k : Int) : kc a k = 0 := by
  rw [List.length_eq_zero_iff.mp h]; rfl
theorem fdS_kc {g : Nat → zS3 → zS3} {X : Nat} {v k : Int} (hg : ∀ j s, kc (g j s).2.2 k = kc s.2.2 k + if v = (j : Int) then X else 0) (hv : 0 ≤ v) (s : zS3) : ∀ i, kc (fdS g i s).2.2 k = kc s.2.2 k + if v < (i : Int) then X else 0
  | 0 => by rw [fdS, if_neg (by omega)]; rfl
  | i + 1 => by
    rw [fdS, hg, fdS_kc hg hv s i]
    by_cases h1 : v = (i : Int)
    · rw [if_pos h1, if_neg (by omega), if_pos (by omega)]; omega
    · by_cases h2 : v < (i : Int)
      · rw [if_neg h1, if_pos h2, if_pos (by omega)]; omega
      · rw [if_neg h1, if_neg h2, if_neg (by omega)]
theorem sqS_kc {pg mem : Nat} (hpg : 1 ≤ pg ∧ pg ≤ 100) (hm : 3 ≤ mem ∧ mem ≤ 12) (k : Int) : ∀ (n : Nat) (a b : List (Int × Int)) (s : zS3), b.length ≤ 200 → kc (sqS pg mem n a b s).2.2 k = kc s.2.2 k + kc a k * kc b k
  | 0, a, b, s, hb => by
    rw [sqS]
    by_cases h : a.length = 0 ∨ b.length = 0
    · rw [if_pos h]
      rcases h with h | h
      · rw [kc_zero h]; omega
      · rw [kc_zero h]; omega
    · rw [if_neg h]
      exact (pbS_kc (ch_pos hpg hm).1 k 200 0 (s.1, s.2.2) (by omega)).trans rfl
  | n + 1, a, b, s, hb => by
    rw [sqS]
    by_cases h : a.length = 0 ∨ b.length = 0
    · rw [if_pos h]
      rcases h with h | h
      · rw [kc_zero h]; omega
      · rw [kc_zero h]; omega
    · rw [if_neg h]
      by_cases h2 : pgs (b.length : Int) pg ≤ (mem : Int) - 2
      · rw [if_pos h2]
        exact (pbS_kc (ch_pos hpg hm).1 k 200 0 (s.1, s.2.2) (by omega)).trans rfl
      · rw [if_neg h2]
        have hv := spN_in (f := ((mem - 1 : Nat) : Int)) (by omega) (2 - n) k
        have hg : ∀ (j : Nat) (t : zS3), kc (gsS pg mem n a b j t).2.2 k = kc t.2.2 k + if spN ((mem - 1 : Nat) : Int) (2 - n) k = (j : Int) then kc a k * kc b k else 0 := fun j t => by
          unfold gsS
          rw [sqS_kc hpg hm k n _ _ _ (Nat.le_trans spL_len hb), spL_kc, spL_kc]
          by_cases e : spN ((mem - 1 : Nat) : Int) (2 - n) k = (j : Int)
          · rw [if_pos e, if_pos e, if_pos e]
          · rw [if_neg e, if_neg e, if_neg e]
        have := fdS_kc hg hv.1 (s.1 + (pgs (a.length : Int) pg + pgs (b.length : Int) pg), s.2.1, s.2.2) (mem - 1)
        rw [if_pos hv.2] at this
        exact this
theorem zIn.append {A B : List (Int × Int)} (h1 : zIn A) (h2 : zIn B) : zIn (A ++ B) := fun p hp => (List.mem_append.mp hp).elim (h1 p) (h2 p)
theorem pjL_in {a b : List (Int × Int)} (ha : zIn a) (hb : zIn b) (i u : Nat) : ∀ n, zIn (pjL a b i u n)
  | 0 => zIn.nil
  | n + 1 => by
    rw [pjL]
    refine (pjL_in ha hb i u n).append ?_
    by_cases q : kA a i = kA b (u + n)
    · rw [if_pos q]
      intro p hp
      rw [List.mem_singleton.mp hp]
      have := ha.at i
      exact ⟨this.1, pMk_in this.2.1 (hb.at (u + n)).2.1⟩
    · rw [if_neg q]; exact zIn.nil
theorem piL_in {a b : List (Int × Int)} (ha : zIn a) (hb : zIn b) (u w : Nat) : ∀ i, zIn (piL a b u w i)
  | 0 => zIn.nil
  | i + 1 => (piL_in ha hb u w i).append (pjL_in ha hb i u w)
theorem pbS_in {a b : List (Int × Int)} (ha : zIn a) (hb : zIn b) {pg : Int} {ch : Nat} : ∀ (f u : Nat) (s : Int × List (Int × Int)), zIn s.2 → zIn (pbS a b pg ch f u s).2
  | 0, _, s, h => h
  | f + 1, u, s, h => by
    rw [pbS]
    by_cases q : u < b.length
    · rw [if_pos q]; exact pbS_in ha hb f _ _ (h.append (piL_in ha hb _ _ _))
    · rw [if_neg q]; exact h
theorem fdS_in {g : Nat → zS3 → zS3} (hg : ∀ k s, zIn s.2.2 → zIn (g k s).2.2) {s : zS3} (hs : zIn s.2.2) : ∀ n, zIn (fdS g n s).2.2
  | 0 => hs
  | n + 1 => by rw [fdS]; exact hg _ _ (fdS_in hg hs n)
theorem sqS_in {pg mem : Nat} : ∀ (n : Nat) (a b : List (Int × Int)) (s : zS3), zIn a → zIn b → zIn s.2.2 → zIn (sqS pg mem n a b s).2.2
  | 0, a, b, s, ha, hb, hs => by
    rw [sqS]
    by_cases h : a.length = 0 ∨ b.length = 0
    · rw [if_pos h]; exact hs
    · rw [if_neg h]; exact pbS_in ha hb 200 0 (s.1, s.2.2) hs
  | n + 1, a, b, s, ha, hb, hs => by
    rw [sqS]
    by_cases h : a.length = 0 ∨ b.length = 0
    · rw [if_pos h]; exact hs
    · rw [if_neg h]
      by_cases h2 : pgs (b.length : Int) pg ≤ (mem : Int) - 2
      · rw [if_pos h2]; exact pbS_in ha hb 200 0 (s.1, s.2.2) hs
      · rw [if_neg h2]
        have hg : ∀ (k : Nat) (t : zS3), zIn t.2.2 → zIn (gsS pg mem n a b k t).2.2 := fun k t ht => by
          unfold gsS
          exact sqS_in n _ _ _ ha.spL hb.spL ht
        exact fdS_in (g := gsS pg mem n a b) hg (s := (s.1 + (pgs (a.length : Int) pg + pgs (b.length : Int) pg), s.2.1, s.2.2)) hs (mem - 1)
/-! groups -/
def smk (L : List (Int × Int)) : Nat → Int
  | 0 => 0
  | k + 1 => smk L k + mA L k
theorem smk_app {L : List (Int × Int)} {p : Int × Int} : ∀ k, k ≤ L.length → smk (L ++ [p]) k = smk L k
  | 0, _ => rfl
  | k + 1, h => by rw [smk, smk, smk_app k (by omega), mA_app_l (by omega)]
theorem smk_push {L : List (Int × Int)} {k m : Int} : smk (L ++ [(k, m)]) (L ++ [(k, m)]).length = smk L L.length + m := by
  rw [List.length_append]
  show smk (L ++ [(k, m)]) (L.length + 1) = _
  rw [smk, smk_app _ (Nat.le_refl _), mA_app_n]
/-- the group of the record ahead goes on at place i -/
abbrev ctL (A : List (Int × Int)) (i : Nat) : Prop := 0 < i ∧ i < A.length ∧ kA A i = kA A (i - 1)
theorem gg_fact {A : List (Int × Int)} (hu : upB A = true) : ∀ i, i ≤ A.length → smk (ggL A i) (ggL A i).length + (if ctL A i then gmL A i else 0) = (i : Int) ∧ (ggL A i).length + (if ctL A i then 1 else 0) = dcL A i ∧ upB (ggL A i) = true ∧ (∀ p ∈ ggL A i, ∃ j, j < i ∧ p.1 = kA A j) ∧ (∀ p ∈ ggL A i, 0 ≤ p.2 ∧ p.2 ≤ (i : Int))
  | 0, _ => by
    rw [if_neg (fun h => absurd h.1 (by omega)), if_neg (fun h => absurd h.1 (by omega))]
    exact ⟨rfl, rfl, rfl, fun p hp => absurd hp List.not_mem_nil, fun p hp => absurd hp List.not_mem_nil⟩
  | i + 1, hi => by
    obtain ⟨h1, h2, h3, h4, h5⟩ := gg_fact hu i (by omega)
    have hin : (kA A i ∈ ksL A i) ↔ ctL A i := by
      rw [ksL_mem]
      constructor
      · rintro ⟨j, j1, j2⟩
        refine ⟨by omega, by omega, ?_⟩
        have u1 := up_le hu j (i - 1) (by omega) (by omega)
        have u2 := up_le hu (i - 1) i (by omega) (by omega)
        omega
      · rintro ⟨c1, c2, c3⟩
        exact ⟨i - 1, by omega, c3.symm⟩
    have hgm : gmL A (i + 1) = if ctL A i then gmL A i + 1 else 1 := by
      rw [gmL]
      by_cases c : ctL A i
      · rw [if_pos c, if_neg]
        rintro (z | z)
        · exact absurd c.1 (by omega)
        · exact z c.2.2.symm
      · rw [if_neg c, if_pos]
        by_cases z : i = 0
        · exact Or.inl z
        · exact Or.inr fun q => c ⟨by omega, by omega, q.symm⟩
    have hdc : dcL A (i + 1) = dcL A i + (if ctL A i then 0 else 1) := by
      rw [dcL]
      by_cases c : ctL A i
      · rw [if_pos c, if_pos (hin.mpr c)]; rfl
      · rw [if_neg c, if_neg (fun q => c (hin.mp q))]
    have hct : ctL A (i + 1) ↔ (i + 1 < A.length ∧ kA A (i + 1) = kA A i) := ⟨fun c => c.2, fun c => ⟨by omega, c.1, c.2⟩⟩
    have hgi := gmL_in A (i + 1)
    rw [hdc]
    by_cases c : i + 1 < A.length ∧ kA A (i + 1) = kA A i
    · have e : ggL A (i + 1) = ggL A i := by rw [ggL, if_pos c, List.append_nil]
      rw [e, if_pos (hct.mpr c), if_pos (hct.mpr c), hgm]
      refine ⟨?_, ?_, h3, fun p hp => ?_, fun p hp => ?_⟩
      · by_cases q : ctL A i
        · rw [if_pos q] at h1 ⊢; omega
        · rw [if_neg q] at h1 ⊢; omega
      · by_cases q : ctL A i
        · rw [if_pos q] at h2 ⊢; omega
        · rw [if_neg q] at h2 ⊢; omega
      · obtain ⟨j, j1, j2⟩ := h4 p hp
        exact ⟨j, by omega, j2⟩
      · have := h5 p hp; omega
    · have e : ggL A (i + 1) = ggL A i ++ [(kA A i, gmL A (i + 1))] := by rw [ggL, if_neg c]
      rw [e, if_neg (fun z => c (hct.mp z)), if_neg (fun z => c (hct.mp z)), smk_push, hgm]
      refine ⟨?_, ?_, ?_, fun p hp => ?_, fun p hp => ?_⟩
      · by_cases q : ctL A i
        · rw [if_pos q] at h1 ⊢; omega
        · rw [if_neg q] at h1 ⊢; omega
      · rw [List.length_append]
        show _ + 1 + 0 = _
        by_cases q : ctL A i
        · rw [if_pos q] at h2 ⊢; omega
        · rw [if_neg q] at h2 ⊢; omega
      · rw [← hgm]
        refine upB_app h3 fun p hp => ?_
        obtain ⟨j, j1, j2⟩ := h4 p hp
        rw [j2]; exact up_le hu j i (by omega) (by omega)
      · rcases List.mem_append.mp hp with q | q
        · obtain ⟨j, j1, j2⟩ := h4 p q
          exact ⟨j, by omega, j2⟩
        · rw [List.mem_singleton.mp q]; exact ⟨i, by omega, rfl⟩
      · rcases List.mem_append.mp hp with q | q
        · have := h5 p q; omega
        · rw [List.mem_singleton.mp q, ← hgm]; exact ⟨hgi.1, hgi.2⟩
theorem gg_all {A : List (Int × Int)} (hu : upB A = true) (hb : zIn A) (hn : A.length ≤ 120) : smk (ggL A A.length) (ggL A A.length).length = (A.length : Int) ∧ (ggL A A.length).length = nd A ∧ upB (ggL A A.length) = true ∧ zIn (ggL A A.length) := by
  obtain ⟨h1, h2, h3, h4, h5⟩ := gg_fact hu A.length (Nat.le_refl _)
  have c : ¬ ctL A A.length := fun c => absurd c.2.1 (by omega)
  rw [if_neg c] at h1 h2
  refine ⟨by omega, by rw [← dcL_all hb]; omega, h3, fun p hp => ?_⟩
  obtain ⟨j, -, j2⟩ := h4 p hp
  have h6 := h5 p hp
  have h7 := hb.at j
  exact ⟨by rw [j2]; exact h7.1, by omega, by omega⟩
