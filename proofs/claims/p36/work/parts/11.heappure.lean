/-! the binary heap: counts of a row of numbers, a sorted list as what it holds -/
def cN (A : Nat → Int) : Nat → Int → Nat
  | 0, _ => 0
  | n + 1, w => cN A n w + (if A n = w then 1 else 0)
theorem cN_congr {A B : Nat → Int} : ∀ {n : Nat} {w : Int}, (∀ i, i < n → A i = B i) → cN A n w = cN B n w
  | 0, _, _ => rfl
  | n + 1, w, h => by
    rw [cN, cN, cN_congr (fun i hi => h i (by omega)), h n (by omega)]
theorem cN_up {A : Nat → Int} {k : Nat} {x : Int} : ∀ {n : Nat} {w : Int}, k < n → cN (va_up A k x) n w + (if A k = w then 1 else 0) = cN A n w + (if x = w then 1 else 0)
  | 0, _, h => absurd h (Nat.not_lt_zero _)
  | n + 1, w, h => by
    rw [cN, cN]
    by_cases hk : k = n
    · subst hk
      rw [cN_congr (B := A) (fun i hi => by simp [va_up]; omega)]
      have : va_up A k x k = x := by simp [va_up]
      rw [this]
      omega
    · have h1 := cN_up (A := A) (x := x) (n := n) (w := w) (k := k) (by omega)
      have : va_up A k x n = A n := by simp [va_up]; omega
      rw [this]
      omega
theorem cN_pos {A : Nat → Int} {i : Nat} : ∀ {n : Nat}, i < n → 0 < cN A n (A i)
  | 0, h => absurd h (Nat.not_lt_zero _)
  | n + 1, h => by
    rw [cN]
    by_cases hi : i = n
    · subst hi; simp
    · have := cN_pos (A := A) (i := i) (n := n) (by omega)
      omega
theorem cN_ex {A : Nat → Int} {w : Int} : ∀ {n : Nat}, 0 < cN A n w → ∃ i, i < n ∧ A i = w
  | 0, h => absurd h (Nat.lt_irrefl 0)
  | n + 1, h => by
    rw [cN] at h
    by_cases hn : A n = w
    · exact ⟨n, by omega, hn⟩
    · rw [if_neg hn] at h
      obtain ⟨i, h1, h2⟩ := cN_ex (n := n) h
      exact ⟨i, by omega, h2⟩
/-- two places change what they hold -/
theorem cN_swap {C : Nat → Int} {p q n : Nat} {w : Int} (hp : p < n) (hq : q < n) (hne : q ≠ p) : cN (va_up (va_up C p (C q)) q (C p)) n w = cN C n w := by
  have h1 := cN_up (A := va_up C p (C q)) (k := q) (x := C p) (w := w) hq
  have h2 := cN_up (A := C) (k := p) (x := C q) (w := w) hp
  have e : va_up C p (C q) q = C q := by simp [va_up, hne]
  rw [e] at h1
  omega
def insS (v : Int) : List Int → List Int
  | [] => [v]
  | a :: t => if v ≤ a then v :: a :: t else a :: insS v t
theorem insS_len (v : Int) : ∀ l, (insS v l).length = l.length + 1
  | [] => rfl
  | a :: t => by
    rw [insS]
    by_cases h : v ≤ a
    · rw [if_pos h]; rfl
    · rw [if_neg h, List.length_cons, insS_len v t]; rfl
theorem cnt_cons (a w : Int) (l : List Int) : (a :: l).count w = l.count w + (if a = w then 1 else 0) := by
  rw [List.count_cons]
  by_cases h : a = w <;> simp [h]
theorem insS_count (v w : Int) : ∀ l, (insS v l).count w = l.count w + (if v = w then 1 else 0)
  | [] => by rw [insS, cnt_cons]
  | a :: t => by
    rw [insS]
    by_cases h : v ≤ a
    · rw [if_pos h, cnt_cons]
    · rw [if_neg h, cnt_cons, cnt_cons, insS_count v w t]; omega
theorem insS_mem {v w : Int} {l : List Int} : w ∈ insS v l ↔ w = v ∨ w ∈ l := by
  rw [← List.count_pos_iff, ← List.count_pos_iff, insS_count]
  by_cases h : v = w
  · simp [h]
  · simp [h, Ne.symm h]
theorem insS_sorted {v : Int} : ∀ {l : List Int}, l.Pairwise (· ≤ ·) → (insS v l).Pairwise (· ≤ ·)
  | [], _ => List.pairwise_singleton _ _
  | a :: t, h => by
    obtain ⟨h1, h2⟩ := List.pairwise_cons.mp h
    rw [insS]
    by_cases hv : v ≤ a
    · rw [if_pos hv]
      refine List.pairwise_cons.mpr ⟨fun b hb => ?_, h⟩
      rcases List.mem_cons.mp hb with rfl | hb
      · exact hv
      · exact Int.le_trans hv (h1 b hb)
    · rw [if_neg hv]
      refine List.pairwise_cons.mpr ⟨fun b hb => ?_, insS_sorted h2⟩
      rcases insS_mem.mp hb with rfl | hb
      · omega
      · exact h1 b hb
/-- no number stands below its parent -/
def hord (A : Nat → Int) (n : Nat) : Prop := ∀ i, 0 < i → i < n → A ((i - 1) / 2) ≤ A i
theorem hord_min {A : Nat → Int} {n : Nat} (h : hord A n) : ∀ i, i < n → A 0 ≤ A i := by
  intro i
  induction i using Nat.strongRecOn with
  | ind i ih =>
    intro hi
    by_cases h0 : i = 0
    · subst h0; exact Int.le_refl _
    · exact Int.le_trans (ih ((i - 1) / 2) (by omega) (by omega)) (h i (by omega) hi)
/-- heap h holds the sorted numbers S -/
def zHp (M : zM) (h : Nat) (S : List Int) : Prop := M (76 + 2 * h) 1 = (S.length : Int) ∧ S.length ≤ 120 ∧ S.Pairwise (· ≤ ·) ∧ (∀ w ∈ S, 0 ≤ w ∧ w ≤ 2000000000) ∧ (∀ w, cN (M (77 + 2 * h)) S.length w = S.count w) ∧ hord (M (77 + 2 * h)) S.length
def zFh (M M' : zM) (h : Nat) : Prop := ∀ o, o ≠ 76 + 2 * h → o ≠ 77 + 2 * h → M' o = M o
theorem zFh.refl {M : zM} {h : Nat} : zFh M M h := fun _ _ _ => rfl
theorem zFh.trans {M M1 M2 : zM} {h : Nat} (h1 : zFh M M1 h) (h2 : zFh M1 M2 h) : zFh M M2 h := fun o a b => (h2 o a b).trans (h1 o a b)
theorem zHp.keep {M M' : zM} {h : Nat} {S : List Int} (H : zHp M h S) (h0 : M' (76 + 2 * h) = M (76 + 2 * h)) (h1 : M' (77 + 2 * h) = M (77 + 2 * h)) : zHp M' h S := by
  unfold zHp
  rw [h0, h1]
  exact H
/-- the least is at the top -/
theorem zHp.top {M : zM} {h : Nat} {a : Int} {T : List Int} (H : zHp M h (a :: T)) : M (77 + 2 * h) 0 = a := by
  obtain ⟨-, -, hs, -, hc, ho⟩ := H
  have h1 : M (77 + 2 * h) 0 ∈ a :: T := List.count_pos_iff.mp (by rw [← hc]; exact cN_pos (by simp))
  obtain ⟨i, hi, e⟩ := cN_ex (A := M (77 + 2 * h)) (w := a) (n := (a :: T).length) (by rw [hc]; exact List.count_pos_iff.mpr List.mem_cons_self)
  have h2 := hord_min ho i hi
  rcases List.mem_cons.mp h1 with h3 | h3
  · exact h3
  · have := (List.pairwise_cons.mp hs).1 _ h3
    omega
/-- what the loop of push keeps: C: the row with the new number in its hole p; n: the place of the last number -/
def hJ (C : Nat → Int) (n p : Nat) : Prop := (∀ i, 0 < i → i ≤ n → i ≠ p → C ((i - 1) / 2) ≤ C i) ∧ (0 < p → ∀ i, 0 < i → i ≤ n → (i - 1) / 2 = p → C ((p - 1) / 2) ≤ C i)
theorem hJ_step {B : Nat → Int} {v : Int} {n p : Nat} (h : hJ (va_up B p v) n p) (h0 : 0 < p) (hn : p ≤ n) (hlt : v < B ((p - 1) / 2)) : hJ (va_up (va_up B p (B ((p - 1) / 2))) ((p - 1) / 2) v) n ((p - 1) / 2) := by
  obtain ⟨h1, h2⟩ := h
  generalize hq : (p - 1) / 2 = q at hlt h2 ⊢
  have hqp : q ≠ p := by omega
  have C1 : ∀ i, i ≠ p → va_up B p v i = B i := fun i hi => by simp [va_up, hi]
  have C2 : ∀ i, i ≠ q → i ≠ p → va_up (va_up B p (B q)) q v i = B i := fun i hi hj => by simp [va_up, hi, hj]
  have C3 : va_up (va_up B p (B q)) q v q = v := by simp [va_up]
  have C4 : va_up (va_up B p (B q)) q v p = B q := by simp [va_up, Ne.symm hqp]
  have e : ∀ i, 0 < i → i ≤ n → i ≠ p → (i - 1) / 2 ≠ p → B ((i - 1) / 2) ≤ B i := fun i g1 g2 g3 g4 => by
    have := h1 i g1 g2 g3
    rw [C1 _ g4, C1 _ g3] at this
    exact this
  have e2 : ∀ i, 0 < i → i ≤ n → (i - 1) / 2 = p → B q ≤ B i := fun i g1 g2 g3 => by
    have := h2 h0 i g1 g2 g3
    rw [C1 _ hqp, C1 i (by omega)] at this
    exact this
  refine ⟨fun i g1 g2 g3 => ?_, fun g0 i g1 g2 g3 => ?_⟩
  · by_cases a1 : i = p
    · subst a1
      rw [hq, C3, C4]; omega
    · rw [C2 i g3 a1]
      by_cases a2 : (i - 1) / 2 = p
      · rw [a2, C4]; exact e2 i g1 g2 a2
      · by_cases a3 : (i - 1) / 2 = q
        · rw [a3, C3]
          have := e i g1 g2 a1 a2
          rw [a3] at this
          omega
        · rw [C2 _ a3 a2]; exact e i g1 g2 a1 a2
  · have b1 : (q - 1) / 2 ≠ q := by omega
    have b2 : (q - 1) / 2 ≠ p := by omega
    rw [C2 _ b1 b2]
    have b3 := e q g0 (by omega) hqp b2
    by_cases a1 : i = p
    · subst a1
      rw [C4]; exact b3
    · rw [C2 i (by omega) a1]
      have := e i g1 g2 a1 (by omega)
      rw [g3] at this
      omega
theorem hJ_end {C : Nat → Int} {n p : Nat} (h : hJ C n p) (h0 : p = 0 ∨ C ((p - 1) / 2) ≤ C p) : hord C (n + 1) := by
  intro i h1 h2
  by_cases e : i = p
  · subst e
    rcases h0 with h0 | h0
    · omega
    · exact h0
  · exact h.1 i h1 (by omega) e
/-- what the loop of the sinking keeps: n: how many numbers there are -/
def hK (C : Nat → Int) (n p : Nat) : Prop := (∀ i, 0 < i → i < n → (i - 1) / 2 ≠ p → C ((i - 1) / 2) ≤ C i) ∧ (0 < p → ∀ i, 0 < i → i < n → (i - 1) / 2 = p → C ((p - 1) / 2) ≤ C i)
theorem hK_step {B : Nat → Int} {v : Int} {n p q : Nat} (h : hK (va_up B p v) n p) (hq : 0 < q) (hqn : q < n) (hqp : (q - 1) / 2 = p) (hle : B q ≤ v) (hmin : ∀ i, 0 < i → i < n → (i - 1) / 2 = p → B q ≤ B i) : hK (va_up (va_up B p (B q)) q v) n q := by
  obtain ⟨h1, h2⟩ := h
  have hne : q ≠ p := by omega
  have C1 : ∀ i, i ≠ p → va_up B p v i = B i := fun i hi => by simp [va_up, hi]
  have C2 : ∀ i, i ≠ q → i ≠ p → va_up (va_up B p (B q)) q v i = B i := fun i hi hj => by simp [va_up, hi, hj]
  have C3 : va_up (va_up B p (B q)) q v q = v := by simp [va_up]
  have C4 : va_up (va_up B p (B q)) q v p = B q := by simp [va_up, Ne.symm hne]
  refine ⟨fun i g1 g2 g3 => ?_, fun _ i g1 g2 g3 => ?_⟩
  · by_cases a1 : i = q
    · subst a1
      rw [hqp, C3, C4]; exact hle
    · by_cases a2 : i = p
      · subst a2
        have a3 : (i - 1) / 2 ≠ i := by omega
        have := h2 g1 q hq hqn hqp
        rw [C1 _ a3, C1 _ hne] at this
        rw [C2 _ g3 a3, C4]; exact this
      · rw [C2 i a1 a2]
        by_cases a4 : (i - 1) / 2 = p
        · rw [a4, C4]; exact hmin i g1 g2 a4
        · have := h1 i g1 g2 a4
          rw [C1 _ a4, C1 _ a2] at this
          rw [C2 _ g3 a4]; exact this
  · have a2 : i ≠ p := by omega
    have a1 : i ≠ q := by omega
    have := h1 i g1 g2 (by omega)
    rw [g3, C1 _ hne, C1 _ a2] at this
    rw [hqp, C4, C2 i a1 a2]; exact this
theorem hK_end {C : Nat → Int} {n p : Nat} (h : hK C n p) (h0 : ∀ i, 0 < i → i < n → (i - 1) / 2 = p → C p ≤ C i) : hord C n := by
  intro i h1 h2
  by_cases e : (i - 1) / 2 = p
  · rw [e]; exact h0 i h1 h2 e
  · exact h.1 i h1 h2 e
