/-! the law's state -/
def zHend (X : z_X) : Prop := ∀ (M : zM) (pc : Nat) (lv : List (Option Value)), decode cL_law pc = .ok (.ireturn, 1) → G X M pc lv [.int (jI 1)]
def zHcell (X : z_X) (b : Nat) : Prop := ∀ (M : zM) (pc k : Nat) (lv : List (Option Value)) (st : List Value), k < 32 → decode cL_law pc = .ok (.invokestatic 20, 3) → lv.length = 18 → (st.map fun v => v.category).sum ≤ 8 → (∀ v : Int32, G X M (pc + 3) lv (.int v :: st)) → G X M pc lv (.int (jI (k : Int)) :: .ref b :: st)
def lwH (n : Nat) (L0 L1 : List (Int × Int)) (pg mem : Nat) : Prop := zIn L0 ∧ zIn L1 ∧ L0.length = n ∧ n ≤ 39 ∧ 1 ≤ L1.length ∧ L1.length ≤ 30 ∧ (2 ≤ pg ∧ pg ≤ 5) ∧ (3 ≤ mem ∧ mem ≤ 6)
def lwF (L0 L1 : List (Int × Int)) (pg mem : Nat) (f : Nat) : List (Int × Int) :=
  if f = 0 then L0 else if f = 1 then L1 else if f < 6 then srL L0 else if f = 6 then srL L1
  else if f = 7 then (sqS pg mem 3 L0 L1 (0, 0, [])).2.2
  else if f = 8 then jn0 (srL L0) (srL L1) (srL L0).length
  else if f = 9 then jnX (srL L0) (srL L1) 2 (srL L0).length
  else if f = 10 then jnX (srL L0) (srL L1) 3 (srL L0).length
  else ggL (srL L0) (srL L0).length
theorem zSt.row {M : zM} {c pg mem : Nat} {F : Nat → List (Int × Int)} (h : zSt M c pg mem F) {f : Nat} {L : List (Int × Int)} (hf : f < c) (e : F f = L) : zRow M f L := by rw [← e]; exact h.2.2.2.1 f hf
theorem zSt.same {M M' : zM} {c pg mem : Nat} {F : Nat → List (Int × Int)} (h : zSt M c pg mem F) (h95 : M' 95 = M 95) (hf : ∀ o, o < 36 → M' o = M o) : zSt M' c pg mem F := by
  have hc := h.2.2.2.2
  exact ⟨by rw [h95]; exact h.1, by rw [h95]; exact h.2.1, by rw [h95]; exact h.2.2.1, fun f hc2 => (h.2.2.2.1 f hc2).same (fun o a b => hf o (by omega)), hc⟩
theorem zSt.next {M M' : zM} {c pg mem : Nat} {F : Nat → List (Int × Int)} {L : List (Int × Int)} (h : zSt M c pg mem F) (hc : c < 12) (h0 : zRow M' c L) (e : F c = L) (h1 : M' 95 1 = (c : Int) + 1) (h2 : M' 95 2 = M 95 2) (h3 : M' 95 3 = M 95 3) (hf : ∀ o, o < 36 → o ≠ 3 * c → o ≠ 3 * c + 1 → o ≠ 3 * c + 2 → M' o = M o) : zSt M' (c + 1) pg mem F := by
  refine ⟨by rw [h1]; omega, h2.trans h.2.1, h3.trans h.2.2.1, fun f hf2 => ?_, by omega⟩
  by_cases q : f = c
  · subst q; rw [e]; exact h0
  · exact (h.2.2.2.1 f (by omega)).same (fun o a b => hf o (by omega) (by omega) (by omega) (by omega))
theorem jI_land {v : Int32} : ∃ u : Int, v &&& jI 2147483647 = jI u ∧ 0 ≤ u ∧ u ≤ 2147483647 := by
  refine ⟨(v &&& jI 2147483647).toInt, (jI_of _).symm, ?_, ?_⟩
  · have h : (v &&& jI 2147483647).toBitVec.msb = false := by
      rw [Int32.toBitVec_and, BitVec.msb_and]
      have : (jI 2147483647).toBitVec.msb = false := by decide
      rw [this]; simp
    rw [BitVec.msb_eq_toInt] at h
    have h2 : ¬ (v &&& jI 2147483647).toBitVec.toInt < 0 := by simpa using h
    have : (v &&& jI 2147483647).toInt = (v &&& jI 2147483647).toBitVec.toInt := rfl
    omega
  · have := Int32.toInt_lt (v &&& jI 2147483647)
    omega
theorem dy_ok (b : Bool) : ∃ y : Int, (if b = true then (2 : Int) else 0) = y ∧ (y = 0 ∨ y = 2) := by
  cases b
  · exact ⟨0, rfl, Or.inl rfl⟩
  · exact ⟨2, rfl, Or.inr rfl⟩
