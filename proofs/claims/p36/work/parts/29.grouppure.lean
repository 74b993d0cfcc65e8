/-! groups, shares -/
theorem g_tableIn {X : z_X} {cc : ByteArray} {own : String} {ret : Option FieldType} {d n : Nat} {M : zM} {pc : Nat} {lv : List (Option Value)} {st : List Value} (C : Cx cc own ret d n X) {x : Int32} {dflt lo hi off : Int} {offs : Array Int} {len tgt : Nat} (hd : decode cc pc = .ok (.tableswitch dflt lo hi offs, len)) (h1 : ¬ x.toInt < lo) (h2 : ¬ hi < x.toInt) (ho : offs[(x.toInt - lo).toNat]? = some off) (ht : (pc : Int) + off = (tgt : Int)) (kk : G X M tgt lv st) : G X M pc lv (.int x :: st) := by
  obtain ⟨p, l, e, R, s, m, args, below, meth, c, Q, D, ad, ⟨cI, cJ, cO⟩, lo2, cs, sl⟩ := X
  obtain ⟨hx, hb, -⟩ := C
  exact fun H locs ls hP hS hl => lv_tableIn hx hb hd h1 h2 ho ht (kk H locs ls hP hS hl)
/-- the mark of the group behind the first i records -/
def gmL (A : List (Int × Int)) : Nat → Int
  | 0 => 0
  | i + 1 => if i = 0 ∨ kA A (i - 1) ≠ kA A i then 1 else gmL A i + 1
def ggL (A : List (Int × Int)) : Nat → List (Int × Int)
  | 0 => []
  | i + 1 => ggL A i ++ (if i + 1 < A.length ∧ kA A (i + 1) = kA A i then [] else [(kA A i, gmL A (i + 1))])
theorem gmL_in (A : List (Int × Int)) : ∀ i, 0 ≤ gmL A i ∧ gmL A i ≤ (i : Int)
  | 0 => by simp [gmL]
  | i + 1 => by
    have := gmL_in A i
    rw [gmL]
    by_cases h : i = 0 ∨ kA A (i - 1) ≠ kA A i
    · rw [if_pos h]; omega
    · rw [if_neg h]; omega
theorem ggL_len (A : List (Int × Int)) : ∀ i, (ggL A i).length ≤ i
  | 0 => Nat.le_refl _
  | i + 1 => by
    have := ggL_len A i
    rw [ggL, List.length_append]
    by_cases h : i + 1 < A.length ∧ kA A (i + 1) = kA A i
    · rw [if_pos h]; simp; omega
    · rw [if_neg h]; simp; omega
theorem ksL_mem {L : List (Int × Int)} {k : Int} : ∀ {i : Nat}, k ∈ ksL L i ↔ ∃ j, j < i ∧ kA L j = k
  | 0 => by simp [ksL]
  | i + 1 => by
    rw [ksL, List.mem_cons, ksL_mem]
    constructor
    · rintro (h | ⟨j, h1, h2⟩)
      · exact ⟨i, Nat.lt_succ_self i, h.symm⟩
      · exact ⟨j, by omega, h2⟩
    · rintro ⟨j, h1, h2⟩
      by_cases e : j = i
      · subst e; exact Or.inl h2.symm
      · exact Or.inr ⟨j, by omega, h2⟩
theorem kc_pos {L : List (Int × Int)} {k : Int} : 0 < kc L k ↔ ∃ j, j < L.length ∧ kA L j = k := by
  unfold kc
  rw [List.countP_pos_iff]
  constructor
  · rintro ⟨p, hp, h⟩
    obtain ⟨j, hj, rfl⟩ := List.mem_iff_getElem.mp hp
    exact ⟨j, hj, by rw [kA_get hj]; simpa using h⟩
  · rintro ⟨j, hj, h⟩
    exact ⟨L[j], List.getElem_mem hj, by rw [kA_get hj] at h; simpa using h⟩
theorem ksL_kc {L : List (Int × Int)} {k : Int} : k ∈ ksL L L.length ↔ 0 < kc L k := by rw [ksL_mem, kc_pos]
/-- how many of the first i records of A have partners -/
def shL (A B : List (Int × Int)) : Nat → Nat
  | 0 => 0
  | i + 1 => if 0 < kc B (kA A i) then shL A B i + 1 else shL A B i
theorem shL_le (A B : List (Int × Int)) : ∀ i, shL A B i ≤ i
  | 0 => Nat.le_refl _
  | i + 1 => by
    have := shL_le A B i
    rw [shL]
    by_cases h : 0 < kc B (kA A i)
    · rw [if_pos h]; omega
    · rw [if_neg h]; omega
theorem sh_n64 : ∀ n, n < 41 → ∀ c, c < n + 1 → 0 < n → (FP.ddiv (FP.i2d (jI ((c : Nat) : Int))) (FP.i2d (jI ((n : Nat) : Int)))) &&& 0x7fffffffffffffff ≤ 0x7ff0000000000000 := by decide +kernel
def shV (A B : List (Int × Int)) : UInt64 := if A.length = 0 then FP.dconst0 else FP.ddiv (FP.i2d (jI (shL A B A.length : Int))) (FP.i2d (jI (A.length : Int)))
