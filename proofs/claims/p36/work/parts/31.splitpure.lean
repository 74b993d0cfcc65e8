/-! splitting as functions of lists -/
/-- the pairs of record i of a with n records of b from place u on; those of the first i records of a -/
def pjL (a b : List (Int × Int)) (i u : Nat) : Nat → List (Int × Int)
  | 0 => []
  | n + 1 => pjL a b i u n ++ (if kA a i = kA b (u + n) then [(kA a i, pMk (mA a i) (mA b (u + n)))] else [])
def piL (a b : List (Int × Int)) (u w : Nat) : Nat → List (Int × Int)
  | 0 => []
  | i + 1 => piL a b u w i ++ pjL a b i u w
/-- part by part: pages read, pairs -/
def pbS (a b : List (Int × Int)) (pg : Int) (ch : Nat) : Nat → Nat → (Int × List (Int × Int)) → (Int × List (Int × Int))
  | 0, _, s => s
  | f + 1, u, s => if u < b.length then pbS a b pg ch f (u + ch) (s.1 + (pgs ((min (u + ch) b.length : Nat) - (u : Int)) pg + pgs (a.length : Int) pg), s.2 ++ piL a b u (min (u + ch) b.length - u) a.length) else s
abbrev zS3 := Int × Int × List (Int × Int)
def fdS (g : Nat → zS3 → zS3) : Nat → zS3 → zS3
  | 0, s => s
  | k + 1, s => g k (fdS g k s)
/-- what splitting makes: pages read, pages written, pairs; n more depths may come -/
def sqS (pg mem : Nat) : Nat → List (Int × Int) → List (Int × Int) → zS3 → zS3
  | 0, a, b, s => if a.length = 0 ∨ b.length = 0 then s else
      ((pbS a b pg ((mem - 2) * pg) 200 0 (s.1, s.2.2)).1, s.2.1, (pbS a b pg ((mem - 2) * pg) 200 0 (s.1, s.2.2)).2)
  | n + 1, a, b, s => if a.length = 0 ∨ b.length = 0 then s else
      if pgs (b.length : Int) pg ≤ (mem : Int) - 2 then ((pbS a b pg ((mem - 2) * pg) 200 0 (s.1, s.2.2)).1, s.2.1, (pbS a b pg ((mem - 2) * pg) 200 0 (s.1, s.2.2)).2)
      else fdS (fun k s => sqS pg mem n (spL ((mem - 1 : Nat) : Int) (2 - n) (k : Int) a) (spL ((mem - 1 : Nat) : Int) (2 - n) (k : Int) b) (s.1, s.2.1 + pgs ((spL ((mem - 1 : Nat) : Int) (2 - n) (k : Int) a).length : Int) pg + pgs ((spL ((mem - 1 : Nat) : Int) (2 - n) (k : Int) b).length : Int) pg, s.2.2))
        (mem - 1) (s.1 + (pgs (a.length : Int) pg + pgs (b.length : Int) pg), s.2.1, s.2.2)
def gsS (pg mem n : Nat) (a b : List (Int × Int)) (k : Nat) (s : zS3) : zS3 := sqS pg mem n (spL ((mem - 1 : Nat) : Int) (2 - n) (k : Int) a) (spL ((mem - 1 : Nat) : Int) (2 - n) (k : Int) b) (s.1, s.2.1 + pgs ((spL ((mem - 1 : Nat) : Int) (2 - n) (k : Int) a).length : Int) pg + pgs ((spL ((mem - 1 : Nat) : Int) (2 - n) (k : Int) b).length : Int) pg, s.2.2)
theorem pbS_mono {a b : List (Int × Int)} {pg : Int} {ch : Nat} : ∀ (f u : Nat) (s : Int × List (Int × Int)), s.2.length ≤ (pbS a b pg ch f u s).2.length
  | 0, _, s => Nat.le_refl _
  | f + 1, u, s => by
    rw [pbS]
    by_cases h : u < b.length
    · rw [if_pos h]
      refine Nat.le_trans ?_ (pbS_mono f _ _)
      rw [List.length_append]; omega
    · rw [if_neg h]; exact Nat.le_refl _
theorem fdS_mono {g : Nat → zS3 → zS3} (hg : ∀ k s, s.2.2.length ≤ (g k s).2.2.length) (s : zS3) {i n : Nat} (h : i ≤ n) : (fdS g i s).2.2.length ≤ (fdS g n s).2.2.length := by
  induction n with
  | zero => rw [show i = 0 by omega]; exact Nat.le_refl _
  | succ n ih =>
    by_cases e : i = n + 1
    · subst e; exact Nat.le_refl _
    · exact Nat.le_trans (ih (by omega)) (by rw [fdS]; exact hg _ _)
theorem sqS_mono {pg mem : Nat} : ∀ (n : Nat) (a b : List (Int × Int)) (s : zS3), s.2.2.length ≤ (sqS pg mem n a b s).2.2.length
  | 0, a, b, s => by
    rw [sqS]
    by_cases h : a.length = 0 ∨ b.length = 0
    · rw [if_pos h]; exact Nat.le_refl _
    · rw [if_neg h]; exact pbS_mono 200 0 (s.1, s.2.2)
  | n + 1, a, b, s => by
    rw [sqS]
    by_cases h : a.length = 0 ∨ b.length = 0
    · rw [if_pos h]; exact Nat.le_refl _
    · rw [if_neg h]
      by_cases h2 : pgs (b.length : Int) pg ≤ (mem : Int) - 2
      · rw [if_pos h2]; exact pbS_mono 200 0 (s.1, s.2.2)
      · rw [if_neg h2]
        have hg : ∀ (k : Nat) (t : zS3), t.2.2.length ≤ (gsS pg mem n a b k t).2.2.length := fun k t => by
          unfold gsS
          refine Nat.le_trans ?_ (sqS_mono n _ _ _)
          exact Nat.le_refl _
        exact fdS_mono (g := gsS pg mem n a b) hg (s.1 + (pgs (a.length : Int) pg + pgs (b.length : Int) pg), s.2.1, s.2.2) (Nat.zero_le (mem - 1))
theorem piL_mono {a b : List (Int × Int)} {u w i n : Nat} (h : i ≤ n) : (piL a b u w i).length ≤ (piL a b u w n).length := by
  induction n with
  | zero => rw [show i = 0 by omega]; exact Nat.le_refl _
  | succ n ih =>
    by_cases e : i = n + 1
    · subst e; exact Nat.le_refl _
    · have := ih (by omega)
      rw [piL, List.length_append]; omega
theorem pjL_mono {a b : List (Int × Int)} {i u m n : Nat} (h : m ≤ n) : (pjL a b i u m).length ≤ (pjL a b i u n).length := by
  induction n with
  | zero => rw [show m = 0 by omega]; exact Nat.le_refl _
  | succ n ih =>
    by_cases e : m = n + 1
    · subst e; exact Nat.le_refl _
    · have := ih (by omega)
      rw [pjL, List.length_append]; omega
theorem ch_pos {pg mem : Nat} (hpg : 1 ≤ pg ∧ pg ≤ 100) (hm : 3 ≤ mem ∧ mem ≤ 12) : 1 ≤ (mem - 2) * pg ∧ (mem - 2) * pg ≤ 1000 ∧ ((mem : Int) - 2) * (pg : Int) = (((mem - 2) * pg : Nat) : Int) := by
  refine ⟨Nat.mul_pos (by omega) (by omega), Nat.le_trans (Nat.mul_le_mul (show mem - 2 ≤ 10 by omega) hpg.2) (by decide), ?_⟩
  rw [Int.natCast_mul]
  congr 1
  omega
