/-! rows and lists of the world as lists -/
def kA (L : List (Int × Int)) (i : Nat) : Int := (L.getD i (0, 0)).1
def mA (L : List (Int × Int)) (i : Nat) : Int := (L.getD i (0, 0)).2
/-- keys and marks are in their bounds -/
def zIn (L : List (Int × Int)) : Prop := ∀ p ∈ L, (-999 ≤ p.1 ∧ p.1 ≤ 999) ∧ (0 ≤ p.2 ∧ p.2 ≤ 9999)
theorem zIn.at {L : List (Int × Int)} (h : zIn L) (i : Nat) : (-999 ≤ kA L i ∧ kA L i ≤ 999) ∧ (0 ≤ mA L i ∧ mA L i ≤ 9999) := by
  unfold kA mA
  by_cases hi : i < L.length
  · rw [show L.getD i (0, 0) = L[i] by simp [List.getD, hi]]
    exact h _ (List.getElem_mem hi)
  · rw [show L.getD i (0, 0) = (0, 0) by simp [List.getD, List.getElem?_eq_none (Nat.not_lt.mp hi)]]
    decide
theorem zIn.nil : zIn [] := fun _ h => absurd h List.not_mem_nil
theorem zIn.app {L : List (Int × Int)} {k m : Int} (h : zIn L) (hk : -999 ≤ k ∧ k ≤ 999) (hm : 0 ≤ m ∧ m ≤ 9999) : zIn (L ++ [(k, m)]) := by
  intro p hp
  rcases List.mem_append.mp hp with h1 | h1
  · exact h p h1
  · rw [List.mem_singleton.mp h1]; exact ⟨hk, hm⟩
theorem kA_app_l {L L2 : List (Int × Int)} {i : Nat} (h : i < L.length) : kA (L ++ L2) i = kA L i := by
  simp [kA, List.getD, List.getElem?_append_left h]
theorem mA_app_l {L L2 : List (Int × Int)} {i : Nat} (h : i < L.length) : mA (L ++ L2) i = mA L i := by
  simp [mA, List.getD, List.getElem?_append_left h]
theorem kA_app_n {L : List (Int × Int)} {k m : Int} : kA (L ++ [(k, m)]) L.length = k := by simp [kA, List.getD]
theorem mA_app_n {L : List (Int × Int)} {k m : Int} : mA (L ++ [(k, m)]) L.length = m := by simp [mA, List.getD]
/-- row r holds the records L -/
def zRow (M : zM) (r : Nat) (L : List (Int × Int)) : Prop := M (3 * r) 2 = (L.length : Int) ∧ L.length ≤ 120 ∧ ∀ i, i < L.length → M (3 * r + 1) i = kA L i ∧ M (3 * r + 2) i = mA L i
theorem zRow.keep {M M' : zM} {r : Nat} {L : List (Int × Int)} (h : zRow M r L) (h0 : M' (3 * r) = M (3 * r)) (h1 : M' (3 * r + 1) = M (3 * r + 1)) (h2 : M' (3 * r + 2) = M (3 * r + 2)) : zRow M' r L := by
  unfold zRow
  rw [h0, h1, h2]
  exact h
/-- the row r alone has changed -/
def zFr (M M' : zM) (r : Nat) : Prop := ∀ o, o ≠ 3 * r → o ≠ 3 * r + 1 → o ≠ 3 * r + 2 → M' o = M o
theorem zRow.apart {M M' : zM} {r q : Nat} {L : List (Int × Int)} (h : zRow M q L) (hf : zFr M M' r) (hq : q ≠ r) : zRow M' q L :=
  h.keep (hf _ (by omega) (by omega) (by omega)) (hf _ (by omega) (by omega) (by omega)) (hf _ (by omega) (by omega) (by omega))
theorem zFr.refl {M : zM} {r : Nat} : zFr M M r := fun _ _ _ _ => rfl
theorem zFr.trans {M M1 M2 : zM} {r : Nat} (h1 : zFr M M1 r) (h2 : zFr M1 M2 r) : zFr M M2 r := fun o a b c => (h2 o a b c).trans (h1 o a b c)
/-- what add makes of a row that has space -/
theorem zRow.push {M : zM} {r : Nat} {L : List (Int × Int)} (h : zRow M r L) (hs : L.length < 120) (k m : Int) :
    zRow (zu (zu (zu M (3 * r + 1) L.length k) (3 * r + 2) L.length m) (3 * r) 2 ((L.length : Int) + 1)) r (L ++ [(k, m)]) := by
  refine ⟨?_, by simp; omega, fun i hi => ?_⟩
  · rw [zu_s]; simp
  · simp at hi
    simp only [zu_at]
    by_cases h1 : i = L.length
    · subst h1
      rw [kA_app_n, mA_app_n]
      simp
    · have h2 : i < L.length := by omega
      rw [kA_app_l h2, mA_app_l h2]
      simp [h1]
      exact h.2.2 i h2
theorem zFr.push {M : zM} {r j : Nat} {k m c : Int} : zFr M (zu (zu (zu M (3 * r + 1) j k) (3 * r + 2) j m) (3 * r) 2 c) r := fun o h0 h1 h2 => by
  rw [zu_o _ _ _ _ h0, zu_o _ _ _ _ h2, zu_o _ _ _ _ h1]
/-- up, down -/
def upB : List (Int × Int) → Bool
  | a :: b :: t => decide (a.1 ≤ b.1) && upB (b :: t)
  | _ => true
def dnB : List (Int × Int) → Bool
  | a :: b :: t => decide (b.1 ≤ a.1) && dnB (b :: t)
  | _ => true
theorem upB_iff : ∀ L : List (Int × Int), upB L = true ↔ ∀ i, i + 1 < L.length → kA L i ≤ kA L (i + 1)
  | [] => by simp [upB]
  | [a] => by simp [upB]
  | a :: b :: t => by
    rw [upB, Bool.and_eq_true, decide_eq_true_eq, upB_iff (b :: t)]
    constructor
    · rintro ⟨h1, h2⟩ i hi
      cases i with
      | zero => simpa [kA] using h1
      | succ i => simpa [kA] using h2 i (by simpa using hi)
    · intro h
      refine ⟨by simpa [kA] using h 0 (by simp), fun i hi => ?_⟩
      simpa [kA] using h (i + 1) (by simpa using hi)
theorem dnB_iff : ∀ L : List (Int × Int), dnB L = true ↔ ∀ i, i + 1 < L.length → kA L (i + 1) ≤ kA L i
  | [] => by simp [dnB]
  | [a] => by simp [dnB]
  | a :: b :: t => by
    rw [dnB, Bool.and_eq_true, decide_eq_true_eq, dnB_iff (b :: t)]
    constructor
    · rintro ⟨h1, h2⟩ i hi
      cases i with
      | zero => simpa [kA] using h1
      | succ i => simpa [kA] using h2 i (by simpa using hi)
    · intro h
      refine ⟨by simpa [kA] using h 0 (by simp), fun i hi => ?_⟩
      simpa [kA] using h (i + 1) (by simpa using hi)
/-- list n holds the numbers L -/
def nA (L : List Int) (i : Nat) : Int := L.getD i 0
def zNum (M : zM) (n : Nat) (L : List Int) : Prop := M (60 + 2 * n) 1 = (L.length : Int) ∧ L.length ≤ 120 ∧ ∀ i, i < L.length → M (61 + 2 * n) i = nA L i
def zFn (M M' : zM) (n : Nat) : Prop := ∀ o, o ≠ 60 + 2 * n → o ≠ 61 + 2 * n → M' o = M o
theorem zNum.keep {M M' : zM} {n : Nat} {L : List Int} (h : zNum M n L) (h0 : M' (60 + 2 * n) = M (60 + 2 * n)) (h1 : M' (61 + 2 * n) = M (61 + 2 * n)) : zNum M' n L := by
  unfold zNum
  rw [h0, h1]
  exact h
theorem zNum.apart {M M' : zM} {n q : Nat} {L : List Int} (h : zNum M q L) (hf : zFn M M' n) (hq : q ≠ n) : zNum M' q L :=
  h.keep (hf _ (by omega) (by omega)) (hf _ (by omega) (by omega))
theorem zFn.refl {M : zM} {n : Nat} : zFn M M n := fun _ _ _ => rfl
theorem zFn.trans {M M1 M2 : zM} {n : Nat} (h1 : zFn M M1 n) (h2 : zFn M1 M2 n) : zFn M M2 n := fun o a b => (h2 o a b).trans (h1 o a b)
theorem nA_app_l {L L2 : List Int} {i : Nat} (h : i < L.length) : nA (L ++ L2) i = nA L i := by
  simp [nA, List.getD, List.getElem?_append_left h]
theorem nA_app_n {L : List Int} {k : Int} : nA (L ++ [k]) L.length = k := by simp [nA, List.getD]
theorem zNum.push {M : zM} {n : Nat} {L : List Int} (h : zNum M n L) (hs : L.length < 120) (k : Int) :
    zNum (zu (zu M (61 + 2 * n) L.length k) (60 + 2 * n) 1 ((L.length : Int) + 1)) n (L ++ [k]) := by
  refine ⟨?_, by simp; omega, fun i hi => ?_⟩
  · rw [zu_s]; simp
  · simp at hi
    simp only [zu_at]
    by_cases h1 : i = L.length
    · subst h1
      rw [nA_app_n]
      simp
    · have h2 : i < L.length := by omega
      rw [nA_app_l h2]
      simp [h1]
      exact h.2.2 i h2
theorem zFn.push {M : zM} {n j : Nat} {k c : Int} : zFn M (zu (zu M (61 + 2 * n) j k) (60 + 2 * n) 1 c) n := fun o h0 h1 => by
  rw [zu_o _ _ _ _ h0, zu_o _ _ _ _ h1]
/-! more of lists -/
theorem rec_take {L : List (Int × Int)} {i : Nat} (h : i < L.length) : L.take (i + 1) = L.take i ++ [(kA L i, mA L i)] := by
  have e : L[i]? = some (kA L i, mA L i) := by
    rw [List.getElem?_eq_getElem h]; simp [kA, mA, List.getD, h]
  rw [List.take_succ, e]; rfl
theorem num_take {L : List Int} {i : Nat} (h : i < L.length) : L.take (i + 1) = L.take i ++ [nA L i] := by
  have e : L[i]? = some (nA L i) := by
    rw [List.getElem?_eq_getElem h]; simp [nA, List.getD, h]
  rw [List.take_succ, e]; rfl
theorem zRow.is_take {M : zM} {r : Nat} {L : List (Int × Int)} (h : zRow M r L) : zRow M r (L.take L.length) := by rw [List.take_length]; exact h
/-- the first place from f on whose key is not below k -/
def pnb (L : List (Int × Int)) (k : Int) (f : Nat) : Nat := f + ((L.drop f).takeWhile (fun p => decide (p.1 < k))).length
theorem kA_get {L : List (Int × Int)} {i : Nat} (h : i < L.length) : kA L i = L[i].1 := by simp [kA, List.getD, h]
theorem mA_get {L : List (Int × Int)} {i : Nat} (h : i < L.length) : mA L i = L[i].2 := by simp [mA, List.getD, h]
theorem pnb_end {L : List (Int × Int)} {k : Int} {f : Nat} (h : L.length ≤ f) : pnb L k f = f := by simp [pnb, List.drop_eq_nil_of_le h]
theorem pnb_stop {L : List (Int × Int)} {k : Int} {f : Nat} (h : f < L.length) (hk : k ≤ kA L f) : pnb L k f = f := by
  rw [kA_get h] at hk
  rw [pnb, List.drop_eq_getElem_cons h, List.takeWhile_cons_of_neg (by simp; omega)]; rfl
theorem pnb_step {L : List (Int × Int)} {k : Int} {f : Nat} (h : f < L.length) (hk : kA L f < k) : pnb L k f = pnb L k (f + 1) := by
  rw [kA_get h] at hk
  rw [pnb, List.drop_eq_getElem_cons h, List.takeWhile_cons_of_pos (by simp; omega), pnb, List.length_cons]
  omega
theorem nA_get {L : List Int} {i : Nat} (h : i < L.length) : nA L i = L[i] := by simp [nA, List.getD, h]
/-- a place of a list set -/
theorem zNum.put {M : zM} {n i : Nat} {L : List Int} (h : zNum M n L) (hi : i < L.length) (v : Int) : zNum (zu M (61 + 2 * n) i v) n (L.set i v) := by
  refine ⟨by rw [zu_o _ _ _ _ (by omega), List.length_set]; exact h.1, by rw [List.length_set]; exact h.2.1, fun j hj => ?_⟩
  rw [List.length_set] at hj
  by_cases e : j = i
  · subst e
    rw [zu_s, nA_get (by rw [List.length_set]; exact hj)]; simp
  · rw [zu_k _ _ _ _ e, h.2.2 j hj, nA_get hj, nA_get (by rw [List.length_set]; exact hj), List.getElem_set_ne (Ne.symm e)]
theorem zFn.put {M : zM} {n i : Nat} {v : Int} : zFn M (zu M (61 + 2 * n) i v) n := fun o _ h1 => zu_o _ _ _ _ h1
theorem zNum.cut {M : zM} {n c : Nat} {L : List Int} (h : zNum M n L) (hc : c ≤ L.length) : zNum (zu M (60 + 2 * n) 1 (c : Int)) n (L.take c) := by
  refine ⟨by rw [zu_s, List.length_take]; omega, by rw [List.length_take]; have := h.2.1; omega, fun j hj => ?_⟩
  rw [List.length_take] at hj
  rw [zu_o _ _ _ _ (by omega), h.2.2 j (by omega), nA_get (by omega), nA_get (by rw [List.length_take]; omega), List.getElem_take]
/-- the place of the least number among the first i, of several the one ahead -/
def lpF (L : List Int) : Nat → Nat
  | 0 => 0
  | i + 1 => if nA L i < nA L (lpF L i) then i else lpF L i
theorem lpF_lt (L : List Int) : ∀ i, 0 < i → lpF L i < i
  | 0, h => absurd h (Nat.lt_irrefl 0)
  | 1, _ => by simp [lpF]
  | i + 2, _ => by
    have := lpF_lt L (i + 1) (by omega)
    rw [lpF]
    by_cases h : nA L (i + 1) < nA L (lpF L (i + 1))
    · rw [if_pos h]; omega
    · rw [if_neg h]; omega
/-- what stands at place j while the numbers behind place q are moved one ahead, up to place b -/
theorem nA_erase {L : List Int} {q j : Nat} (hj : j < (L.eraseIdx q).length) : nA (L.eraseIdx q) j = if j < q then nA L j else nA L (j + 1) := by
  have h2 : L.eraseIdx q = L.take q ++ L.drop (q + 1) := by
    rw [List.eraseIdx_eq_take_drop_succ]
  rw [nA_get hj, List.getElem_eraseIdx]
  by_cases h : j < q
  · rw [dif_pos h, if_pos h, nA_get]
  · rw [dif_neg h, if_neg h, nA_get]
def pgs (a b : Int) : Int := (a + b - 1) / b
theorem pgs_in {a b : Int} (ha : 0 ≤ a) (hb : 1 ≤ b) : 0 ≤ pgs a b ∧ pgs a b ≤ a := by
  unfold pgs
  refine ⟨Int.ediv_nonneg (by omega) (by omega), ?_⟩
  have h1 : (a + b - 1) / b < a + 1 := by
    apply Int.ediv_lt_of_lt_mul (by omega)
    have : 0 ≤ a * (b - 1) := Int.mul_nonneg ha (by omega)
    have e : (a + 1) * b = a * (b - 1) + a + b := by
      rw [Int.add_mul, Int.mul_sub]; omega
    omega
  omega
/-- division that cuts, and the one that goes down -/
theorem jI_tmod {x y : Int} (hx : -2147483648 ≤ x ∧ x ≤ 2147483647) (hy : 0 < y ∧ y ≤ 2147483647) : jI x - jI x / jI y * jI y = jI (x.tmod y) := by
  have hb := tmod_bounds (a := x) hy.1
  apply Int32.toInt_inj.mp
  rw [rem_toInt, jI_t hx, jI_t (by omega), jI_t (by omega)]
theorem jI_xor_neg {x y : Int} (hx : -2147483648 ≤ x ∧ x ≤ 2147483647) (hy : 0 < y ∧ y ≤ 2147483647) : (jI x ^^^ jI y).toInt < 0 ↔ x < 0 := by
  have h1 : (jI x).toBitVec.msb = decide (x < 0) := by
    rw [BitVec.msb_eq_toInt]; congr 1
    have : (jI x).toBitVec.toInt = x := jI_t hx
    rw [this]
  have h2 : (jI y).toBitVec.msb = false := by
    rw [BitVec.msb_eq_toInt]
    have : (jI y).toBitVec.toInt = y := jI_t (by omega)
    rw [this]; simp; omega
  have h3 : (jI x ^^^ jI y).toBitVec.msb = decide (x < 0) := by
    rw [Int32.toBitVec_xor, BitVec.msb_xor, h1, h2]; simp
  rw [BitVec.msb_eq_toInt] at h3
  have h4 : (jI x ^^^ jI y).toBitVec.toInt = (jI x ^^^ jI y).toInt := rfl
  rw [h4] at h3
  constructor
  · intro h; simpa [h] using h3
  · intro h; simpa [h] using h3
theorem z_tmod {x y : Int} (hx : x < 0) (hy : 0 < y) : x % y = if x.tmod y = 0 then 0 else x.tmod y + y := by
  rw [Int.emod_eq_tmod]
  by_cases h : x.tmod y = 0
  · have : y ∣ x := Int.dvd_of_tmod_eq_zero h
    rw [if_pos h, if_pos (Or.inr this), h]; rfl
  · have : ¬ y ∣ x := fun q => h (Int.tmod_eq_zero_of_dvd q)
    rw [if_neg h, if_neg (by simp [this]; omega)]
    omega
