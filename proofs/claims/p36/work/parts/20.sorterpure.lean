/-! what the sorter's methods answer, as functions of lists -/
/-- the keys of the first i records, and how many there are -/
def ksL (L : List (Int × Int)) : Nat → List Int
  | 0 => []
  | i + 1 => kA L i :: ksL L i
def dcL (L : List (Int × Int)) : Nat → Nat
  | 0 => 0
  | i + 1 => if kA L i ∈ ksL L i then dcL L i else dcL L i + 1
theorem dcL_le (L : List (Int × Int)) : ∀ i, dcL L i ≤ i
  | 0 => Nat.le_refl 0
  | i + 1 => by
    have := dcL_le L i
    rw [dcL]
    by_cases h : kA L i ∈ ksL L i
    · rw [if_pos h]; omega
    · rw [if_neg h]; omega
/-- records that a putRow adds -/
def prL (first step span : Int) : Nat → List (Int × Int)
  | 0 => []
  | k + 1 => prL first step span k ++ [((first + (k : Int) * step) % span, (k : Int) % 100)]
theorem prL_len (first step span : Int) : ∀ k, (prL first step span k).length = k
  | 0 => rfl
  | k + 1 => by rw [prL, List.length_append, prL_len first step span k]; rfl
/-- a record by its weight -/
def rcL (L : List (Int × Int)) (w : Int) : Int × Int := (kA L (w % 120).toNat, mA L (w % 120).toNat)
/-- the sorted row -/
def srL (L : List (Int × Int)) : List (Int × Int) := (ini L L.length).map (rcL L)
theorem srL_len (L : List (Int × Int)) : (srL L).length = L.length := by simp [srL, ini_len]
theorem wt_mod {L : List (Int × Int)} {i : Nat} (h : i < 120) : (wt L i % 120).toNat = i := by
  unfold wt
  omega
theorem wt_rem {L : List (Int × Int)} {i : Nat} (h : i < 120) : wt L i % 120 = (i : Int) := by
  unfold wt
  omega
theorem up_le {L : List (Int × Int)} (h : upB L = true) : ∀ (i j : Nat), i ≤ j → j < L.length → kA L i ≤ kA L j := by
  intro i j
  induction j with
  | zero => intro h1 _; rw [show i = 0 by omega]; exact Int.le_refl _
  | succ j ih =>
    intro h1 h2
    by_cases e : i = j + 1
    · subst e; exact Int.le_refl _
    · exact Int.le_trans (ih (by omega) (by omega)) ((upB_iff L).mp h j h2)
/-- the sorter: how many files, page, memory, the files -/
def zSt (M : zM) (c pg mem : Nat) (F : Nat → List (Int × Int)) : Prop := M 95 1 = (c : Int) ∧ M 95 2 = (pg : Int) ∧ M 95 3 = (mem : Int) ∧ (∀ f, f < c → zRow M f (F f)) ∧ c ≤ 12
theorem zRow.same {M M' : zM} {q : Nat} {L : List (Int × Int)} (h : zRow M q L) (hf : ∀ o, 3 * q ≤ o → o ≤ 3 * q + 2 → M' o = M o) : zRow M' q L :=
  h.keep (hf _ (by omega) (by omega)) (hf _ (by omega) (by omega)) (hf _ (by omega) (by omega))
theorem zPl.same {M M' : zM} {p : Nat} {pg : Int} {rs : List Int} {z : zZ} (h : zPl M p pg rs z) (hp : p < 2) (hf : ∀ o, (60 + 8 * p ≤ o ∧ o < 68 + 8 * p) ∨ o = 82 + p → M' o = M o) : zPl M' p pg rs z := by
  have k : ∀ n L, 4 * p ≤ n → n ≤ 4 * p + 3 → zNum M n L → zNum M' n L := fun n L h1 h2 g => g.keep (hf _ (by omega)) (hf _ (by omega))
  have e := hf (82 + p) (Or.inr rfl)
  exact ⟨k _ _ (by omega) (by omega) h.1, k _ _ (by omega) (by omega) h.2.1, by rw [e]; exact h.2.2.1, by rw [e]; exact h.2.2.2.1, k _ _ (by omega) (by omega) h.2.2.2.2.1, k _ _ (by omega) (by omega) h.2.2.2.2.2.1, by rw [e]; exact h.2.2.2.2.2.2⟩
