/-! counts of keys -/
theorem kc_app (A B : List (Int × Int)) (k : Int) : kc (A ++ B) k = kc A k + kc B k := List.countP_append
theorem kc_one (p : Int × Int) (k : Int) : kc [p] k = if p.1 = k then 1 else 0 := by rw [kc_cons]; simp [kc]
theorem kc_nil (k : Int) : kc [] k = 0 := rfl
theorem kc_take (L : List (Int × Int)) {i : Nat} (h : i < L.length) (k : Int) : kc (L.take (i + 1)) k = kc (L.take i) k + (if kA L i = k then 1 else 0) := by
  rw [rec_take h, kc_app, kc_one]
theorem kc_all (L : List (Int × Int)) (k : Int) : kc (L.take L.length) k = kc L k := by rw [List.take_length]
theorem jpL_kc {A B : List (Int × Int)} {i l : Nat} (k : Int) : ∀ n, kc (jpL A B i l n) k = if kA A i = k then n else 0
  | 0 => by simp [jpL, kc]
  | n + 1 => by
    rw [jpL_succ, kc_app, jpL_kc k n, kc_one]
    by_cases h : kA A i = k <;> simp [h]
theorem jn0_kc {A B : List (Int × Int)} (k : Int) : ∀ n, n ≤ A.length → kc (jn0 A B n) k = kc (A.take n) k * kc B k
  | 0, _ => by simp [jn0, kc]
  | n + 1, h => by
    rw [jn0, kc_app, jn0_kc k n (by omega), jpL_kc, kc_take A (by omega), Nat.add_mul]
    by_cases e : kA A n = k
    · rw [if_pos e, if_pos e, e]; omega
    · rw [if_neg e, if_neg e]; omega
theorem jnX_kc {A B : List (Int × Int)} {w : Int} (k : Int) : ∀ n, n ≤ A.length → kc (jnX A B w n) k = if (0 < kc B k ↔ w = 2) then kc (A.take n) k else 0
  | 0, _ => by
    rw [List.take_zero]
    show 0 = _
    split <;> rfl
  | n + 1, h => by
    rw [jnX, kc_app, jnX_kc k n (by omega), kc_take A (by omega)]
    by_cases e : kA A n = k
    · rw [if_pos e, e]
      by_cases q : (0 < kc B k ↔ w = 2)
      · rw [if_pos q, if_pos q, if_pos q, kc_one]; simp
      · rw [if_neg q, if_neg q, if_neg q, kc_nil]
    · rw [if_neg e]
      have z : kc (if (0 < kc B (kA A n) ↔ w = 2) then [(kA A n, mA A n)] else []) k = 0 := by
        by_cases q : (0 < kc B (kA A n) ↔ w = 2)
        · rw [if_pos q, kc_one, if_neg e]
        · rw [if_neg q, kc_nil]
      rw [z, Nat.add_zero, Nat.add_zero]
theorem jnX_two {A B : List (Int × Int)} : ∀ n, (jnX A B 2 n).length + (jnX A B 3 n).length = n
  | 0 => rfl
  | n + 1 => by
    have := jnX_two (A := A) (B := B) n
    rw [jnX, jnX, List.length_append, List.length_append]
    by_cases q : 0 < kc B (kA A n)
    · rw [if_pos ⟨fun _ => rfl, fun _ => q⟩, if_neg (fun h => absurd (h.mp q) (by decide))]; simp; omega
    · rw [if_neg (fun h => q (h.mpr rfl)), if_pos ⟨fun h => absurd h q, fun h => absurd h (by decide)⟩]; simp; omega
theorem shL_jnX {A B : List (Int × Int)} : ∀ n, shL A B n = (jnX A B 2 n).length
  | 0 => rfl
  | n + 1 => by
    rw [shL, jnX, List.length_append, shL_jnX n]
    by_cases q : 0 < kc B (kA A n)
    · rw [if_pos q, if_pos ⟨fun _ => rfl, fun _ => q⟩]; rfl
    · rw [if_neg q, if_neg (fun h => q (h.mpr rfl))]; rfl
theorem jnX_mem {A B : List (Int × Int)} {w : Int} {p : Int × Int} : ∀ {n : Nat}, p ∈ jnX A B w n → ∃ i, i < n ∧ p = (kA A i, mA A i) ∧ (0 < kc B (kA A i) ↔ w = 2)
  | 0, h => absurd h List.not_mem_nil
  | n + 1, h => by
    rw [jnX] at h
    rcases List.mem_append.mp h with h | h
    · obtain ⟨i, h1, h2⟩ := jnX_mem h
      exact ⟨i, by omega, h2⟩
    · by_cases q : (0 < kc B (kA A n) ↔ w = 2)
      · rw [if_pos q] at h
        exact ⟨n, by omega, List.mem_singleton.mp h, q⟩
      · rw [if_neg q] at h; exact absurd h List.not_mem_nil
theorem jnX_in {A B : List (Int × Int)} {w : Int} {n : Nat} (h : zIn A) : zIn (jnX A B w n) := fun p hp => by
  obtain ⟨i, -, rfl, -⟩ := jnX_mem hp
  exact h.at i
theorem shL_all {W B : List (Int × Int)} (h : ∀ p ∈ W, 0 < kc B p.1) : ∀ n, n ≤ W.length → shL W B n = n
  | 0, _ => rfl
  | n + 1, hn => by
    rw [shL, shL_all h n (by omega), if_pos]
    rw [kA_get (by omega)]; exact h _ (List.getElem_mem _)
theorem shL_none {W B : List (Int × Int)} (h : ∀ p ∈ W, ¬ 0 < kc B p.1) : ∀ n, n ≤ W.length → shL W B n = 0
  | 0, _ => rfl
  | n + 1, hn => by
    rw [shL, shL_none h n (by omega), if_neg]
    rw [kA_get (by omega)]; exact h _ (List.getElem_mem _)
theorem jn0_mem {A B : List (Int × Int)} {p : Int × Int} : ∀ {n : Nat}, p ∈ jn0 A B n → ∃ i j, i < n ∧ p = (kA A i, pMk (mA A i) (mA B j))
  | 0, h => absurd h List.not_mem_nil
  | n + 1, h => by
    rw [jn0] at h
    rcases List.mem_append.mp h with h | h
    · obtain ⟨i, j, h1, h2⟩ := jn0_mem h
      exact ⟨i, j, by omega, h2⟩
    · obtain ⟨j, -, h2⟩ := List.mem_map.mp h
      exact ⟨n, _, by omega, h2.symm⟩
theorem jn0_in {A B : List (Int × Int)} {n : Nat} (ha : zIn A) (hb : zIn B) : zIn (jn0 A B n) := fun p hp => by
  obtain ⟨i, j, -, rfl⟩ := jn0_mem hp
  have := ha.at i
  exact ⟨this.1, pMk_in this.2.1 (hb.at j).2.1⟩
theorem upB_app {L : List (Int × Int)} {k m : Int} (h : upB L = true) (hk : ∀ p ∈ L, p.1 ≤ k) : upB (L ++ [(k, m)]) = true := by
  rw [upB_iff] at h ⊢
  intro i hi
  rw [List.length_append] at hi
  simp only [List.length_cons, List.length_nil] at hi
  by_cases e : i + 1 < L.length
  · rw [kA_app_l (by omega), kA_app_l e]; exact h i e
  · have e2 : i + 1 = L.length := by omega
    rw [kA_app_l (by omega), e2, kA_app_n, kA_get (by omega)]
    exact hk _ (List.getElem_mem _)
theorem jpL_up {A B : List (Int × Int)} {i l : Nat} {L : List (Int × Int)} (h : upB L = true) (hk : ∀ p ∈ L, p.1 ≤ kA A i) : ∀ n, upB (L ++ jpL A B i l n) = true
  | 0 => by simpa [jpL] using h
  | n + 1 => by
    rw [jpL_succ, ← List.append_assoc]
    refine upB_app (jpL_up h hk n) fun p hp => ?_
    rcases List.mem_append.mp hp with q | q
    · exact hk p q
    · obtain ⟨j, -, rfl⟩ := List.mem_map.mp q
      exact Int.le_refl _
theorem jn0_up {A B : List (Int × Int)} (hu : upB A = true) : ∀ n, n ≤ A.length → upB (jn0 A B n) = true
  | 0, _ => rfl
  | n + 1, hn => by
    rw [jn0]
    refine jpL_up (jn0_up hu n (by omega)) (fun p hp => ?_) _
    obtain ⟨i, j, h1, rfl⟩ := jn0_mem hp
    exact up_le hu i n (by omega) (by omega)
theorem jnX_up {A B : List (Int × Int)} {w : Int} (hu : upB A = true) : ∀ n, n ≤ A.length → upB (jnX A B w n) = true
  | 0, _ => rfl
  | n + 1, hn => by
    rw [jnX]
    by_cases q : (0 < kc B (kA A n) ↔ w = 2)
    · rw [if_pos q]
      refine upB_app (jnX_up hu n (by omega)) fun p hp => ?_
      obtain ⟨i, h1, rfl, -⟩ := jnX_mem hp
      exact up_le hu i n (by omega) (by omega)
    · rw [if_neg q, List.append_nil]; exact jnX_up hu n (by omega)
theorem jn0_bound {A B : List (Int × Int)} : ∀ n, (jn0 A B n).length ≤ n * B.length
  | 0 => by simp [jn0]
  | n + 1 => by
    have := jn0_bound (A := A) (B := B) n
    rw [jn0, List.length_append, jpL_len, Nat.add_mul]
    have : kc B (kA A n) ≤ B.length := List.countP_le_length
    omega
theorem jn0_len {A B : List (Int × Int)} {n : Nat} : (jn0 A B (n + 1)).length = (jn0 A B n).length + kc B (kA A n) := by
  rw [jn0, List.length_append, jpL_len]
/-- lists with the same counts of keys have the same length -/
theorem kc_count (A : List (Int × Int)) (k : Int) : (A.map Prod.fst).count k = kc A k := by
  induction A with
  | nil => rfl
  | cons p t ih =>
    rw [List.map_cons, List.count_cons, ih, kc_cons]
    by_cases h : p.1 = k <;> simp [h]
theorem kc_len {A B : List (Int × Int)} (h : ∀ k, kc A k = kc B k) : A.length = B.length := by
  have : (A.map Prod.fst).Perm (B.map Prod.fst) := List.perm_iff_count.mpr fun k => by rw [kc_count, kc_count, h]
  simpa using this.length_eq
/-- how many keys there are -/
def nd (L : List (Int × Int)) : Nat := (List.range 1999).countP (fun n : Nat => decide (0 < kc L ((n : Int) - 999)))
theorem cn_congr {p q : Nat → Bool} : ∀ N, (∀ n, n < N → p n = q n) → (List.range N).countP p = (List.range N).countP q
  | 0, _ => rfl
  | N + 1, h => by
    rw [List.range_succ, List.countP_append, List.countP_append, cn_congr N (fun n hn => h n (by omega))]
    rw [List.countP_singleton, List.countP_singleton, h N (by omega)]
theorem cn_add {p q r : Nat → Bool} : ∀ N, (∀ n, n < N → (p n = true ↔ (q n = true ∨ r n = true)) ∧ ¬ (q n = true ∧ r n = true)) → (List.range N).countP p = (List.range N).countP q + (List.range N).countP r
  | 0, _ => rfl
  | N + 1, h => by
    rw [List.range_succ, List.countP_append, List.countP_append, List.countP_append, cn_add N (fun n hn => h n (by omega))]
    rw [List.countP_singleton, List.countP_singleton, List.countP_singleton]
    obtain ⟨h1, h2⟩ := h N (by omega)
    cases hp : p N <;> cases hq : q N <;> cases hr : r N <;> simp [hp, hq, hr] at h1 h2 ⊢ <;> omega
theorem cn_one {m : Nat} : ∀ N, (List.range N).countP (fun n : Nat => decide (n = m)) = if m < N then 1 else 0
  | 0 => rfl
  | N + 1 => by
    rw [List.range_succ, List.countP_append, cn_one N, List.countP_singleton]
    by_cases h : m < N
    · have : ¬ N = m := by omega
      rw [if_pos h, if_pos (show m < N + 1 by omega)]; simp [this]
    · by_cases e : N = m
      · rw [if_neg h, if_pos (show m < N + 1 by omega)]; simp [e]
      · rw [if_neg h, if_neg (show ¬ m < N + 1 by omega)]; simp [e]
theorem nd_congr {A B : List (Int × Int)} (h : ∀ k, 0 < kc A k ↔ 0 < kc B k) : nd A = nd B := by
  refine cn_congr _ fun n _ => ?_
  rw [decide_eq_decide]; exact h _
theorem nd_add {A B C : List (Int × Int)} (h : ∀ k, (0 < kc A k ↔ (0 < kc B k ∨ 0 < kc C k)) ∧ ¬ (0 < kc B k ∧ 0 < kc C k)) : nd A = nd B + nd C :=
  cn_add _ fun n _ => by simpa using h ((n : Int) - 999)
theorem ksL_take (L : List (Int × Int)) (k : Int) : ∀ i, i ≤ L.length → (k ∈ ksL L i ↔ 0 < kc (L.take i) k)
  | 0, _ => by simp [ksL, kc]
  | i + 1, h => by
    rw [ksL, List.mem_cons, ksL_take L k i (by omega), kc_take L (by omega)]
    by_cases e : kA L i = k
    · rw [if_pos e]; exact ⟨fun _ => by omega, fun _ => Or.inl e.symm⟩
    · rw [if_neg e]; exact ⟨fun q => q.elim (fun q => absurd q.symm e) id, fun q => Or.inr q⟩
theorem dcL_nd {L : List (Int × Int)} (hb : zIn L) : ∀ i, i ≤ L.length → dcL L i = nd (L.take i)
  | 0, _ => by
    show 0 = nd []
    unfold nd
    rw [List.countP_eq_zero.mpr]
    intro n _
    simp [kc]
  | i + 1, h => by
    rw [dcL, dcL_nd hb i (by omega)]
    by_cases e : kA L i ∈ ksL L i
    · rw [if_pos e]
      refine nd_congr fun k => ?_
      rw [kc_take L (by omega)]
      by_cases q : kA L i = k
      · rw [if_pos q]
        rw [q] at e
        have := (ksL_take L k i (by omega)).mp e
        omega
      · rw [if_neg q]; rfl
    · rw [if_neg e]
      have hk := hb.at i
      have := cn_add (p := fun n : Nat => decide (0 < kc (L.take (i + 1)) ((n : Int) - 999))) (q := fun n : Nat => decide (0 < kc (L.take i) ((n : Int) - 999))) (r := fun n : Nat => decide (n = (kA L i + 999).toNat)) 1999 (fun n hn => by
        simp only [decide_eq_true_eq]
        rw [kc_take L (by omega)]
        have e2 : ¬ 0 < kc (L.take i) (kA L i) := fun q => e ((ksL_take L _ i (by omega)).mpr q)
        by_cases q : kA L i = (n : Int) - 999
        · rw [if_pos q]
          rw [q] at e2
          exact ⟨⟨fun _ => Or.inr (by omega), fun _ => by omega⟩, fun z => e2 z.1⟩
        · rw [if_neg q]
          exact ⟨⟨fun z => Or.inl z, fun z => z.elim id (fun z => absurd z (by omega))⟩, fun z => absurd z.2 (by omega)⟩)
      rw [cn_one, if_pos (by omega)] at this
      exact this.symm
theorem dcL_all {L : List (Int × Int)} (hb : zIn L) : dcL L L.length = nd L := by rw [dcL_nd hb _ (Nat.le_refl _), List.take_length]
