/-! rows and lists of the world as lists -/
def kA (L : List (Int × Int)) (i : Nat) : Int := (L.getD i (0, 0)).1
def mA (L : List (Int × Int)) (i : Nat) : Int := (L.getD i (0, 0)).2
/-- keys and marks are in their bounds -/
def zIn (L : List (Int × Int)) : Prop := ∀ p ∈ L, (-999 ≤ p.1 ∧ p.1 ≤ 999) ∧ (0 ≤ p.2 ∧ p.2 ≤ 9999)
theorem zIn.at {L : List (Int × Int)} (h : zIn L) (i : Nat) : (-999 ≤ kA L i ∧ kA L i ≤ 999) ∧ (0 ≤ mA L i ∧ mA L i ≤ 9999) := by
  unfold kA mA
  by_cases hi : i < L.length
  · rw [show L.getD i (0, 0) = L[i] by simp [List.getD, hi]]
    exact h _ (List.getElem_mem hi)
  · rw [show L.getD i (0, 0) = (0, 0) by simp [List.getD, List.getElem?_eq_none (Nat.not_lt.mp hi)]]
    decide
theorem zIn.nil : zIn [] := fun _ h => absurd h List.not_mem_nil
theorem zIn.app {L : List (Int × Int)} {k m : Int} (h : zIn L) (hk : -999 ≤ k ∧ k ≤ 999) (hm : 0 ≤ m ∧ m ≤ 9999) : zIn (L ++ [(k, m)]) := by
  intro p hp
  rcases List.mem_append.mp hp with h1 | h1
  · exact h p h1
  · rw [List.mem_singleton.mp h1]; exact ⟨hk, hm⟩
theorem kA_app_l {L L2 : List (Int × Int)} {i : Nat} (h : i < L.length) : kA (L ++ L2) i = kA L i := by
  simp [kA, List.getD, List.getElem?_append_left h]
theorem mA_app_l {L L2 : List (Int × Int)} {i : Nat} (h : i < L.length) : mA (L ++ L2) i = mA L i := by
  simp [mA, List.getD, List.getElem?_append_left h]
theorem kA_app_n {L : List (Int × Int)} {k m : Int} : kA (L ++ [(k, m)]) L.length = k := by simp [kA, List.getD]
theorem mA_app_n {L : List (Int × Int)} {k m : Int} : mA (L ++ [(k, m)]) L.length = m := by simp [mA, List.getD]
/-- row r holds the records L -/
def zRow (M : zM) (r : Nat) (L : List (Int × Int)) : Prop := M (3 * r) 2 = (L.length : Int) ∧ L.length ≤ 120 ∧ ∀ i, i < L.length → M (3 * r + 1) i = kA L i ∧ M (3 * r + 2) i = mA L i
theorem zRow.keep {M M' : zM} {r : Nat} {L : List (Int × Int)} (h : zRow M r L) (h0 : M' (3 * r) = M (3 * r)) (h1 : M' (3 * r + 1) = M (3 * r + 1)) (h2 : M' (3 * r + 2) = M (3 * r + 2)) : zRow M' r L := by
  unfold zRow
  rw [h0, h1, h2]
  exact h
/-- the row r alone has changed -/
def zFr (M M' : zM) (r : Nat) : Prop := ∀ o, o ≠ 3 * r → o ≠ 3 * r + 1 → o ≠ 3 * r + 2 → M' o = M o
theorem zRow.apart {M M' : zM} {r q : Nat} {L : List (Int × Int)} (h : zRow M q L) (hf : zFr M M' r) (hq : q ≠ r) : zRow M' q L :=
  h.keep (hf _ (by omega) (by omega) (by omega)) (hf _ (by omega) (by omega) (by omega)) (hf _ (by omega) (by omega) (by omega))
theorem zFr.refl {M : zM} {r : Nat} : zFr M M r := fun _ _ _ _ => rfl
theorem zFr.trans {M M1 M2 : zM} {r : Nat} (h1 : zFr M M1 r) (h2 : zFr M1 M2 r) : zFr M M2 r := fun o a b c => (h2 o a b c).trans (h1 o a b c)
/-- what add makes of a row that has space -/
theorem zRow.push {M : zM} {r : Nat} {L : List (Int × Int)} (h : zRow M r L) (hs : L.length < 120) (k m : Int) :
    zRow (zu (zu (zu M (3 * r + 1) L.length k) (3 * r + 2) L.length m) (3 * r) 2 ((L.length : Int) + 1)) r (L ++ [(k, m)]) := by
  refine ⟨?_, by simp; omega, fun i hi => ?_⟩
  · rw [zu_s]; simp
  · simp at hi
    simp only [zu_at]
    by_cases h1 : i = L.length
    · subst h1
      rw [kA_app_n, mA_app_n]
      simp
    · have h2 : i < L.length := by omega
      rw [kA_app_l h2, mA_app_l h2]
      simp [h1]
      exact h.2.2 i h2
theorem zFr.push {M : zM} {r j : Nat} {k m c : Int} : zFr M (zu (zu (zu M (3 * r + 1) j k) (3 * r + 2) j m) (3 * r) 2 c) r := fun o h0 h1 h2 => by
  rw [zu_o _ _ _ _ h0, zu_o _ _ _ _ h2, zu_o _ _ _ _ h1]
/-- up, down -/
def upB : List (Int × Int) → Bool
  | a :: b :: t => decide (a.1 ≤ b.1) && upB (b :: t)
  | _ => true
def dnB : List (Int × Int) → Bool
  | a :: b :: t => decide (b.1 ≤ a.1) && dnB (b :: t)
  | _ => true
theorem upB_iff : ∀ L : List (Int × Int), upB L = true ↔ ∀ i, i + 1 < L.length → kA L i ≤ kA L (i + 1)
  | [] => by simp [upB]
  | [a] => by simp [upB]
  | a :: b :: t => by
    rw [upB, Bool.and_eq_true, decide_eq_true_eq, upB_iff (b :: t)]
    constructor
    · rintro ⟨h1, h2⟩ i hi
      cases i with
      | zero => simpa [kA] using h1
      | succ i => simpa [kA] using h2 i (by simpa using hi)
    · intro h
      refine ⟨by simpa [kA] using h 0 (by simp), fun i hi => ?_⟩
      simpa [kA] using h (i + 1) (by simpa using hi)
theorem dnB_iff : ∀ L : List (Int × Int), dnB L = true ↔ ∀ i, i + 1 < L.length → kA L (i + 1) ≤ kA L i
  | [] => by simp [dnB]
  | [a] => by simp [dnB]
  | a :: b :: t => by
    rw [dnB, Bool.and_eq_true, decide_eq_true_eq, dnB_iff (b :: t)]
    constructor
    · rintro ⟨h1, h2⟩ i hi
      cases i with
      | zero => simpa [kA] using h1
      | succ i => simpa [kA] using h2 i (by simpa using hi)
    · intro h
      refine ⟨by simpa [kA] using h 0 (by simp), fun i hi => ?_⟩
      simpa [kA] using h (i + 1) (by simpa using hi)
/-- list n holds the numbers L -/
def nA (L : List Int) (i : Nat) : Int := L.getD i 0
def zNum (M : zM) (n : Nat) (L : List Int) : Prop := M (60 + 2 * n) 1 = (L.length : Int) ∧ L.length ≤ 120 ∧ ∀ i, i < L.length → M (61 + 2 * n) i = nA L i
def zFn (M M' : zM) (n : Nat) : Prop := ∀ o, o ≠ 60 + 2 * n → o ≠ 61 + 2 * n → M' o = M o
theorem zNum.keep {M M' : zM} {n : Nat} {L : List Int} (h : zNum M n L) (h0 : M' (60 + 2 * n) = M (60 + 2 * n)) (h1 : M' (61 + 2 * n) = M (61 + 2 * n)) : zNum M' n L := by
  unfold zNum
  rw [h0, h1]
  exact h
theorem zNum.apart {M M' : zM} {n q : Nat} {L : List Int} (h : zNum M q L) (hf : zFn M M' n) (hq : q ≠ n) : zNum M' q L :=
  h.keep (hf _ (by omega) (by omega)) (hf _ (by omega) (by omega))
theorem zFn.refl {M : zM} {n : Nat} : zFn M M n := fun _ _ _ => rfl
theorem zFn.trans {M M1 M2 : zM} {n : Nat} (h1 : zFn M M1 n) (h2 : zFn M1 M2 n) : zFn M M2 n := fun o a b => (h2 o a b).trans (h1 o a b)
theorem nA_app_l {L L2 : List Int} {i : Nat} (h : i < L.length) : nA (L ++ L2) i = nA L i := by
  simp [nA, List.getD, List.getElem?_append_left h]
theorem nA_app_n {L : List Int} {k : Int} : nA (L ++ [k]) L.length = k := by simp [nA, List.getD]
theorem zNum.push {M : zM} {n : Nat} {L : List Int} (h : zNum M n L) (hs : L.length < 120) (k : Int) :
    zNum (zu (zu M (61 + 2 * n) L.length k) (60 + 2 * n) 1 ((L.length : Int) + 1)) n (L ++ [k]) := by
  refine ⟨?_, by simp; omega, fun i hi => ?_⟩
  · rw [zu_s]; simp
  · simp at hi
    simp only [zu_at]
    by_cases h1 : i = L.length
    · subst h1
      rw [nA_app_n]
      simp
    · have h2 : i < L.length := by omega
      rw [nA_app_l h2]
      simp [h1]
      exact h.2.2 i h2
theorem zFn.push {M : zM} {n j : Nat} {k c : Int} : zFn M (zu (zu M (61 + 2 * n) j k) (60 + 2 * n) 1 c) n := fun o h0 h1 => by
  rw [zu_o _ _ _ _ h0, zu_o _ _ _ _ h1]
