/-! the set of keys: a bit for each; the outcome; the splitting -/
/-- the words hold the keys S (key k is bit k + 999) -/
def zKs (M : zM) (S : List Int) : Prop := ∀ n : Nat, n < 1999 → (jL (M 94 (n / 64))).toBitVec.getLsbD (n % 64) = decide ((n : Int) - 999 ∈ S)
theorem ks_bit : ∀ k : Nat, k < 64 → ((Int64.ofNat 1) <<< ((nI k).toInt64 &&& 63)).toBitVec = BitVec.twoPow 64 k := by decide +kernel
theorem ks_word {n : Nat} (h : n < 1999) : jI ((n : Int) - 999 + 999) >>> (jI 6 &&& 31) = jI ((n / 64 : Nat) : Int) := by
  rw [show (n : Int) - 999 + 999 = (n : Int) by omega, jI_n, jI_n]
  exact pk_shrN (by omega) _ 6 (by decide)
theorem ks_bitOf {n : Nat} (h : n < 1999) : ((Int64.ofNat 1) <<< ((jI ((n : Int) - 999 + 999) &&& jI 63).toInt64 &&& 63)).toBitVec = BitVec.twoPow 64 (n % 64) := by
  rw [show (n : Int) - 999 + 999 = (n : Int) by omega, jI_n, pk_andN (by omega) 6 (by decide)]
  exact ks_bit _ (Nat.mod_lt _ (by omega))
theorem ks_and {x b : Int64} {j : Nat} (hj : j < 64) (hb : b.toBitVec = BitVec.twoPow 64 j) : (x &&& b) = Int64.ofNat 0 ↔ x.toBitVec.getLsbD j = false := by
  rw [← Int64.toBitVec_inj, Int64.toBitVec_and, hb, BitVec.and_twoPow, show (Int64.ofNat 0).toBitVec = 0#64 from rfl]
  cases hx : x.toBitVec.getLsbD j with
  | false => simp
  | true =>
    simp
    intro h
    have h1 := congrArg (fun z => z.getLsbD j) h
    simp [BitVec.getLsbD_twoPow, hj] at h1
theorem ks_or {x b : Int64} {j : Nat} (hb : b.toBitVec = BitVec.twoPow 64 j) (hj : j < 64) (i : Nat) (hi : i < 64) : (x ||| b).toBitVec.getLsbD i = (x.toBitVec.getLsbD i || decide (i = j)) := by
  rw [Int64.toBitVec_or, hb, BitVec.getLsbD_or]
  congr 1
  rw [BitVec.getLsbD_twoPow]
  by_cases e : j = i
  · subst e; simp [hj]
  · simp [e, Ne.symm e]
theorem zKs.put {M : zM} {S : List Int} {n : Nat} {b : Int64} (h : zKs M S) (hn : n < 1999) (hb : b.toBitVec = BitVec.twoPow 64 (n % 64)) : zKs (zu M 94 (n / 64) (jL (M 94 (n / 64)) ||| b).toInt) (((n : Int) - 999) :: S) := by
  intro q hq
  by_cases e : q / 64 = n / 64
  · rw [e, zu_s, jL_of, ks_or hb (Nat.mod_lt _ (by omega)) _ (Nat.mod_lt _ (by omega))]
    have h1 := h q hq
    rw [e] at h1
    rw [h1]
    by_cases e2 : q = n
    · subst e2; simp
    · have e3 : q % 64 ≠ n % 64 := by omega
      have e4 : ¬ (q : Int) - 999 = (n : Int) - 999 := by omega
      simp [e3, e4]
  · rw [zu_k _ _ _ _ e, h q hq]
    have e4 : ¬ (q : Int) - 999 = (n : Int) - 999 := by
      intro z
      exact e (by rw [show q = n by omega])
    simp [e4]
theorem zKs.old {M : zM} {S : List Int} {k : Int} (h : zKs M S) (hk : k ∈ S) : zKs M (k :: S) := by
  intro q hq
  rw [h q hq]
  by_cases e : (q : Int) - 999 = k
  · simp [e, hk]
  · simp [e]
theorem zKs.keep {M M' : zM} {S : List Int} (h : zKs M S) (h0 : M' 94 = M 94) : zKs M' S := by
  unfold zKs; rw [h0]; exact h
/-- the outcome holds the records L, and their number -/
def zOut (M : zM) (L : List (Int × Int)) : Prop := zRow M 12 L ∧ M 89 1 = (L.length : Int)
/-- row 12 and the outcome alone have changed; of the outcome the number alone -/
def zFo (M M' : zM) : Prop := (∀ o, o ≠ 36 → o ≠ 37 → o ≠ 38 → o ≠ 89 → M' o = M o) ∧ ∀ k, k ≠ 1 → M' 89 k = M 89 k
theorem zFo.refl {M : zM} : zFo M M := ⟨fun _ _ _ _ _ => rfl, fun _ _ => rfl⟩
theorem zFo.trans {M M1 M2 : zM} (h1 : zFo M M1) (h2 : zFo M1 M2) : zFo M M2 := ⟨fun o a b c d => (h2.1 o a b c d).trans (h1.1 o a b c d), fun k a => (h2.2 k a).trans (h1.2 k a)⟩
theorem zRow.apo {M M' : zM} {q : Nat} {L : List (Int × Int)} (h : zRow M q L) (hf : ∀ o, o ≠ 36 → o ≠ 37 → o ≠ 38 → o ≠ 89 → M' o = M o) (hq : q ≠ 12) (hq2 : q < 20) : zRow M' q L :=
  h.keep (hf _ (by omega) (by omega) (by omega) (by omega)) (hf _ (by omega) (by omega) (by omega) (by omega)) (hf _ (by omega) (by omega) (by omega) (by omega))
/-- the mark of a pair -/
def pMk (a b : Int) : Int := (100 * a + b) % 10000
theorem pMk_in {a b : Int} (ha : 0 ≤ a) (hb : 0 ≤ b) : 0 ≤ pMk a b ∧ pMk a b ≤ 9999 := by unfold pMk; omega
/-- which part a key belongs to -/
def spN (f : Int) (d : Nat) (k : Int) : Int := (if k < 0 then -k else k) / f ^ d % f
def spL (f : Int) (d : Nat) (num : Int) (L : List (Int × Int)) : List (Int × Int) := L.filter (fun p => decide (spN f d p.1 = num))
theorem spL_take {f num : Int} {d i : Nat} {L : List (Int × Int)} (h : i < L.length) : spL f d num (L.take (i + 1)) = spL f d num (L.take i) ++ (if spN f d (kA L i) = num then [(kA L i, mA L i)] else []) := by
  rw [rec_take h]
  unfold spL
  rw [List.filter_append]
  congr 1
  by_cases e : spN f d (kA L i) = num <;> simp [e]
theorem spL_len {f num : Int} {d : Nat} {L : List (Int × Int)} : (spL f d num L).length ≤ L.length := List.length_filter_le _ _
theorem zIn.sub {L L2 : List (Int × Int)} (h : zIn L) (hs : ∀ p ∈ L2, p ∈ L) : zIn L2 := fun p hp => h p (hs p hp)
theorem zIn.spL {f num : Int} {d : Nat} {L : List (Int × Int)} (h : zIn L) : zIn (spL f d num L) := h.sub fun _ hp => (List.mem_filter.mp hp).1
