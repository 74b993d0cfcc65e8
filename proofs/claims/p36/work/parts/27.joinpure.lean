/-! joins as functions of lists -/
def lc (B : List (Int × Int)) (k : Int) : Nat := B.countP (fun p => decide (p.1 < k))
def kc (B : List (Int × Int)) (k : Int) : Nat := B.countP (fun p => decide (p.1 = k))
theorem upB_tail {p : Int × Int} {t : List (Int × Int)} (h : upB (p :: t) = true) : upB t = true ∧ ∀ q ∈ t, p.1 ≤ q.1 := by
  induction t generalizing p with
  | nil => exact ⟨rfl, fun q hq => absurd hq List.not_mem_nil⟩
  | cons q t ih =>
    rw [upB, Bool.and_eq_true, decide_eq_true_eq] at h
    refine ⟨h.2, fun r hr => ?_⟩
    rcases List.mem_cons.mp hr with rfl | hr
    · exact h.1
    · exact Int.le_trans h.1 ((ih h.2).2 r hr)
theorem lc_zero {B : List (Int × Int)} {k : Int} (h : ∀ q ∈ B, k ≤ q.1) : lc B k = 0 := by
  unfold lc
  rw [List.countP_eq_zero]
  intro q hq
  have := h q hq
  simp; omega
theorem lc_cons (p : Int × Int) (t : List (Int × Int)) (k : Int) : lc (p :: t) k = lc t k + (if p.1 < k then 1 else 0) := by
  unfold lc; rw [List.countP_cons]; simp
theorem kc_cons (p : Int × Int) (t : List (Int × Int)) (k : Int) : kc (p :: t) k = kc t k + (if p.1 = k then 1 else 0) := by
  unfold kc; rw [List.countP_cons]; simp
theorem pnb_cons (p : Int × Int) (t : List (Int × Int)) (k : Int) (f : Nat) : pnb (p :: t) k (f + 1) = pnb t k f + 1 := by
  unfold pnb; rw [List.drop_succ_cons]; omega
theorem pnb_lc {B : List (Int × Int)} (hu : upB B = true) {k : Int} {f : Nat} (hf : f ≤ lc B k) : pnb B k f = lc B k := by
  induction B generalizing f with
  | nil => simp [lc] at hf; subst hf; rfl
  | cons p t ih =>
    obtain ⟨h1, h2⟩ := upB_tail hu
    rw [lc_cons] at hf ⊢
    by_cases c : p.1 < k
    · rw [if_pos c] at hf ⊢
      cases f with
      | zero =>
        rw [pnb_step (by simp) (by simpa [kA] using c), pnb_cons, ih h1 (Nat.zero_le _)]
      | succ f => rw [pnb_cons, ih h1 (by omega)]
    · rw [if_neg c] at hf ⊢
      have z : lc t k = 0 := lc_zero fun q hq => by have := h2 q hq; omega
      rw [z] at hf ⊢
      obtain rfl : f = 0 := by omega
      rw [pnb_stop (by simp) (by simp [kA]; omega)]
theorem lc_succ (B : List (Int × Int)) (k : Int) : lc B (k + 1) = lc B k + kc B k := by
  induction B with
  | nil => rfl
  | cons p t ih =>
    rw [lc_cons, lc_cons, kc_cons, ih]
    by_cases h1 : p.1 < k
    · rw [if_pos (by omega), if_pos h1, if_neg (by omega)]; omega
    · by_cases h2 : p.1 = k
      · rw [if_pos (by omega), if_neg h1, if_pos h2]; omega
      · rw [if_neg (by omega), if_neg h1, if_neg h2]; omega
theorem lc_mono {B : List (Int × Int)} {k l : Int} (h : k ≤ l) : lc B k ≤ lc B l := by
  induction B with
  | nil => exact Nat.le_refl _
  | cons p t ih =>
    rw [lc_cons, lc_cons]
    by_cases h1 : p.1 < k
    · rw [if_pos h1, if_pos (by omega)]; omega
    · rw [if_neg h1]; omega
theorem lc_le (B : List (Int × Int)) (k : Int) : lc B k ≤ B.length := List.countP_le_length
def jpL (A B : List (Int × Int)) (i l n : Nat) : List (Int × Int) := (List.range n).map (fun j => (kA A i, pMk (mA A i) (mA B (l + j))))
theorem jpL_len {A B : List (Int × Int)} {i l n : Nat} : (jpL A B i l n).length = n := by simp [jpL]
theorem jpL_succ {A B : List (Int × Int)} {i l n : Nat} : jpL A B i l (n + 1) = jpL A B i l n ++ [(kA A i, pMk (mA A i) (mA B (l + n)))] := by
  unfold jpL; rw [List.range_succ, List.map_append]; rfl
/-- all pairs of the first i records of A -/
def jn0 (A B : List (Int × Int)) : Nat → List (Int × Int)
  | 0 => []
  | i + 1 => jn0 A B i ++ jpL A B i (lc B (kA A i)) (kc B (kA A i))
/-- of the first i records of A those that have partners, or that have none -/
def jnX (A B : List (Int × Int)) (w : Int) : Nat → List (Int × Int)
  | 0 => []
  | i + 1 => jnX A B w i ++ (if (0 < kc B (kA A i) ↔ w = 2) then [(kA A i, mA A i)] else [])
theorem jn0_mono {A B : List (Int × Int)} {i n : Nat} (h : i ≤ n) : (jn0 A B i).length ≤ (jn0 A B n).length := by
  induction n with
  | zero => rw [show i = 0 by omega]; exact Nat.le_refl _
  | succ n ih =>
    by_cases e : i = n + 1
    · subst e; exact Nat.le_refl _
    · have := ih (by omega)
      rw [jn0, List.length_append]; omega
theorem jnX_len {A B : List (Int × Int)} {w : Int} : ∀ i, (jnX A B w i).length ≤ i
  | 0 => Nat.le_refl _
  | i + 1 => by
    have := jnX_len (A := A) (B := B) (w := w) i
    rw [jnX, List.length_append]
    by_cases h : (0 < kc B (kA A i) ↔ w = 2)
    · rw [if_pos h]; simp; omega
    · rw [if_neg h]; simp; omega
/-- what stands in the outcome is kept by what changes its pages alone -/
theorem zOut.pages {M M' : zM} {L : List (Int × Int)} (h : zOut M L) (hf : ∀ o, o ≠ 89 → M' o = M o) (hk : M' 89 1 = M 89 1) : zOut M' L :=
  ⟨h.1.same (fun o _ _ => hf o (by omega)), hk.trans h.2⟩
