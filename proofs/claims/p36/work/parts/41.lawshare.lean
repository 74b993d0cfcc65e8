/-! doubles of the law: quotients of small numbers -/
theorem sh_eq : ∀ n, n < 41 → ∀ c, c < n + 1 → 0 < n → Op.cmpValue (FP.dcmp (FP.ddiv (FP.i2d (jI ((c : Nat) : Int))) (FP.i2d (jI ((n : Nat) : Int)))) (FP.ddiv (FP.i2d (jI ((c : Nat) : Int))) (FP.i2d (jI ((n : Nat) : Int))))) .l = 0 := by decide +kernel
theorem sh_ge : ∀ n, n < 41 → ∀ c, c < n + 1 → 0 < n → Op.cmpValue (FP.dcmp (FP.ddiv (FP.i2d (jI ((c : Nat) : Int))) (FP.i2d (jI ((n : Nat) : Int)))) FP.dconst0) .l = 0 ∨ Op.cmpValue (FP.dcmp (FP.ddiv (FP.i2d (jI ((c : Nat) : Int))) (FP.i2d (jI ((n : Nat) : Int)))) FP.dconst0) .l = 1 := by decide +kernel
theorem sh_one : ∀ n, n < 41 → 0 < n → Op.cmpValue (FP.dcmp (FP.ddiv (FP.i2d (jI ((n : Nat) : Int))) (FP.i2d (jI ((n : Nat) : Int)))) FP.dconst1) .g = 0 := by decide +kernel
theorem sh_zero : ∀ n, n < 41 → 0 < n → Op.cmpValue (FP.dcmp (FP.ddiv (FP.i2d (jI 0)) (FP.i2d (jI ((n : Nat) : Int)))) FP.dconst0) .l = 0 := by decide +kernel
theorem sh_00 : Op.cmpValue (FP.dcmp FP.dconst0 FP.dconst0) .l = 0 ∧ Op.cmpValue (FP.dcmp FP.dconst0 FP.dconst0) .g = 0 := by decide +kernel
theorem shV_ge {A B : List (Int × Int)} (h : A.length ≤ 40) : ∃ y : Int, Op.cmpValue (FP.dcmp (shV A B) FP.dconst0) .l = jI y ∧ 0 ≤ y ∧ y ≤ 1 := by
  unfold shV
  by_cases e : A.length = 0
  · rw [if_pos e]; exact ⟨0, sh_00.1, by omega, by omega⟩
  · rw [if_neg e]
    rcases sh_ge A.length (by omega) (shL A B A.length) (by have := shL_le A B A.length; omega) (by omega) with q | q
    · exact ⟨0, q, by omega, by omega⟩
    · exact ⟨1, q, by omega, by omega⟩
