/-! a tournament of eight leaves -/
def mn (r : Nat → Int) (a b : Nat) : Nat := if r a < r b then a else b
def mx (r : Nat → Int) (a b : Nat) : Nat := if r a < r b then b else a
/-- who wins the part below node n -/
def wN (r : Nat → Int) (n : Nat) : Nat :=
  if 8 ≤ n then n - 8
  else if 4 ≤ n then mn r (2 * n - 8) (2 * n - 7)
  else if 2 ≤ n then mn r (mn r (4 * n - 8) (4 * n - 7)) (mn r (4 * n - 6) (4 * n - 5))
  else mn r (mn r (mn r 0 1) (mn r 2 3)) (mn r (mn r 4 5) (mn r 6 7))
theorem wN_leaf {r : Nat → Int} {i : Nat} : wN r (8 + i) = i := by unfold wN; rw [if_pos (by omega)]; omega
theorem wN_step {r : Nat → Int} {n : Nat} (h1 : 1 ≤ n) (h2 : n ≤ 7) : wN r n = mn r (wN r (2 * n)) (wN r (2 * n + 1)) := by
  rcases (show n = 1 ∨ n = 2 ∨ n = 3 ∨ n = 4 ∨ n = 5 ∨ n = 6 ∨ n = 7 by omega) with rfl | rfl | rfl | rfl | rfl | rfl | rfl <;> rfl
/-- who loses at node n -/
def lS (r : Nat → Int) (n : Nat) : Nat := mx r (wN r (2 * n)) (wN r (2 * n + 1))
theorem mn_or (r : Nat → Int) (a b : Nat) : mn r a b = a ∨ mn r a b = b := by
  unfold mn; by_cases h : r a < r b <;> simp [h]
theorem mn_le (r : Nat → Int) (a b : Nat) : r (mn r a b) ≤ r a ∧ r (mn r a b) ≤ r b := by
  unfold mn
  by_cases h : r a < r b
  · rw [if_pos h]; omega
  · rw [if_neg h]; omega
/-- the leaves below a node -/
def below_ (n j : Nat) : Prop := (8 ≤ n ∧ j + 8 = n) ∨ (4 ≤ n ∧ n < 8 ∧ (j + 8) / 2 = n) ∨ (2 ≤ n ∧ n < 4 ∧ (j + 8) / 4 = n) ∨ (n = 1 ∧ j < 8)
theorem wN_in (r : Nat → Int) {n : Nat} (h1 : 1 ≤ n) (h2 : n ≤ 15) : below_ n (wN r n) := by
  unfold wN below_
  by_cases a : 8 ≤ n
  · rw [if_pos a]; omega
  · rw [if_neg a]
    by_cases b : 4 ≤ n
    · rw [if_pos b]
      rcases mn_or r (2 * n - 8) (2 * n - 7) with e | e <;> rw [e] <;> omega
    · rw [if_neg b]
      by_cases c : 2 ≤ n
      · rw [if_pos c]
        rcases mn_or r (mn r (4 * n - 8) (4 * n - 7)) (mn r (4 * n - 6) (4 * n - 5)) with e | e <;> rw [e]
        · rcases mn_or r (4 * n - 8) (4 * n - 7) with e | e <;> rw [e] <;> omega
        · rcases mn_or r (4 * n - 6) (4 * n - 5) with e | e <;> rw [e] <;> omega
      · rw [if_neg c]
        rcases mn_or r (mn r (mn r 0 1) (mn r 2 3)) (mn r (mn r 4 5) (mn r 6 7)) with e | e <;> rw [e]
        · rcases mn_or r (mn r 0 1) (mn r 2 3) with e | e <;> rw [e]
          · rcases mn_or r 0 1 with e | e <;> rw [e] <;> omega
          · rcases mn_or r 2 3 with e | e <;> rw [e] <;> omega
        · rcases mn_or r (mn r 4 5) (mn r 6 7) with e | e <;> rw [e]
          · rcases mn_or r 4 5 with e | e <;> rw [e] <;> omega
          · rcases mn_or r 6 7 with e | e <;> rw [e] <;> omega
/-- the winner is the least -/
theorem wN_min (r : Nat → Int) : ∀ j, j < 8 → r (wN r 1) ≤ r j := by
  have h : ∀ n, 1 ≤ n → n ≤ 7 → r (wN r n) ≤ r (wN r (2 * n)) ∧ r (wN r n) ≤ r (wN r (2 * n + 1)) := fun n h1 h2 => by
    rw [wN_step h1 h2]; exact mn_le r _ _
  intro j hj
  have a1 := h 1 (by omega) (by omega)
  have a2 := h 2 (by omega) (by omega)
  have a3 := h 3 (by omega) (by omega)
  have b4 := h 4 (by omega) (by omega)
  have b5 := h 5 (by omega) (by omega)
  have b6 := h 6 (by omega) (by omega)
  have b7 := h 7 (by omega) (by omega)
  simp only [Nat.reduceMul, Nat.reduceAdd] at a1 a2 a3 b4 b5 b6 b7
  have e : ∀ i, i < 8 → wN r (8 + i) = i := fun i _ => wN_leaf
  have e0 := e 0 (by omega); have e1 := e 1 (by omega); have e2 := e 2 (by omega); have e3 := e 3 (by omega)
  have e4 := e 4 (by omega); have e5 := e 5 (by omega); have e6 := e 6 (by omega); have e7 := e 7 (by omega)
  simp only [Nat.reduceAdd, Nat.add_zero] at e0 e1 e2 e3 e4 e5 e6 e7
  rw [e0, e1] at b4; rw [e2, e3] at b5; rw [e4, e5] at b6; rw [e6, e7] at b7
  rcases (show j = 0 ∨ j = 1 ∨ j = 2 ∨ j = 3 ∨ j = 4 ∨ j = 5 ∨ j = 6 ∨ j = 7 by omega) with rfl | rfl | rfl | rfl | rfl | rfl | rfl | rfl <;> omega
/-- on the way up from the winner's leaf it has won everywhere -/
theorem wN_way {r : Nat → Int} {n c s : Nat} (h1 : 1 ≤ n) (h2 : n ≤ 7) (hcs : (c = 2 * n ∧ s = 2 * n + 1) ∨ (c = 2 * n + 1 ∧ s = 2 * n)) (hf : below_ c (wN r n)) : wN r c = wN r n := by
  have e := wN_step (r := r) h1 h2
  have hs := wN_in r (n := s) (by omega) (by omega)
  rcases mn_or r (wN r (2 * n)) (wN r (2 * n + 1)) with q | q <;> rw [q] at e
  · rcases hcs with ⟨rfl, rfl⟩ | ⟨rfl, rfl⟩
    · exact e.symm
    · exfalso
      rw [← e] at hs
      unfold below_ at hf hs
      omega
  · rcases hcs with ⟨rfl, rfl⟩ | ⟨rfl, rfl⟩
    · exfalso
      rw [← e] at hs
      unfold below_ at hf hs
      omega
    · exact e.symm
/-- one match on the way up: c is the node that comes up, s the other one -/
theorem up_one {r r' : Nat → Int} {f n c s : Nat} (h1 : 1 ≤ n) (h2 : n ≤ 7) (hcs : (c = 2 * n ∧ s = 2 * n + 1) ∨ (c = 2 * n + 1 ∧ s = 2 * n)) (hold : wN r c = f) (hmin : r f < r (wN r s)) (hs : wN r' s = wN r s) (hd : r' (wN r' c) ≠ r' (wN r' s)) :
    lS r n = wN r' s ∧ mn r' (wN r' c) (wN r' s) = wN r' n ∧ mx r' (wN r' c) (wN r' s) = lS r' n := by
  rw [wN_step h1 h2]
  unfold lS
  rcases hcs with ⟨rfl, rfl⟩ | ⟨rfl, rfl⟩
  · refine ⟨?_, rfl, rfl⟩
    rw [hold, hs]; unfold mx; rw [if_pos hmin]
  · refine ⟨?_, ?_, ?_⟩
    · rw [hold, hs]; unfold mx; rw [if_neg (by omega)]
    · unfold mn
      by_cases q : r' (wN r' (2 * n + 1)) < r' (wN r' (2 * n))
      · rw [if_pos q, if_neg (by omega)]
      · rw [if_neg q, if_pos (by omega)]
    · unfold mx
      by_cases q : r' (wN r' (2 * n + 1)) < r' (wN r' (2 * n))
      · rw [if_pos q, if_neg (by omega)]
      · rw [if_neg q, if_pos (by omega)]
theorem mn_congr {r r' : Nat → Int} {a b : Nat} (ha : r' a = r a) (hb : r' b = r b) : mn r' a b = mn r a b := by unfold mn; rw [ha, hb]
/-- a part without leaf f stays -/
theorem wN_same {r r' : Nat → Int} {f : Nat} (h : ∀ j, j ≠ f → r' j = r j) {n : Nat} (h1 : 1 ≤ n) (h2 : n ≤ 15) (hn : ¬ below_ n f) : wN r' n = wN r n := by
  have leaf : ∀ i, wN r' (8 + i) = wN r (8 + i) := fun i => by rw [wN_leaf, wN_leaf]
  have four : ∀ n, 4 ≤ n → n ≤ 7 → ¬ below_ n f → wN r' n = wN r n := fun n g1 g2 g3 => by
    rw [wN_step (by omega) g2, wN_step (by omega) g2, show 2 * n = 8 + (2 * n - 8) by omega, show 8 + (2 * n - 8) + 1 = 8 + (2 * n - 7) by omega, wN_leaf, wN_leaf, wN_leaf, wN_leaf]
    unfold below_ at g3
    exact mn_congr (h _ (by omega)) (h _ (by omega))
  have two : ∀ n, 2 ≤ n → n ≤ 3 → ¬ below_ n f → wN r' n = wN r n := fun n g1 g2 g3 => by
    have i1 := wN_in r (n := 2 * n) (by omega) (by omega)
    have i2 := wN_in r (n := 2 * n + 1) (by omega) (by omega)
    unfold below_ at g3 i1 i2
    rw [wN_step (r := r') (n := n) (by omega) (by omega), wN_step (r := r) (n := n) (by omega) (by omega), four (2 * n) (by omega) (by omega) (by unfold below_; omega), four (2 * n + 1) (by omega) (by omega) (by unfold below_; omega)]
    exact mn_congr (h _ (by omega)) (h _ (by omega))
  by_cases a : 8 ≤ n
  · have := leaf (n - 8)
    rw [show 8 + (n - 8) = n by omega] at this
    exact this
  · by_cases b : 4 ≤ n
    · exact four n b (by omega) hn
    · by_cases c : 2 ≤ n
      · exact two n c (by omega) hn
      · have e : n = 1 := by omega
        subst e
        have i1 := wN_in r (n := 2) (by omega) (by omega)
        have i2 := wN_in r (n := 3) (by omega) (by omega)
        unfold below_ at hn i1 i2
        rw [wN_step (r := r') (n := 1) (by omega) (by omega), wN_step (r := r) (n := 1) (by omega) (by omega)]
        simp only [Nat.reduceMul, Nat.reduceAdd]
        rw [two 2 (by omega) (by omega) (by unfold below_; omega), two 3 (by omega) (by omega) (by unfold below_; omega)]
        exact mn_congr (h _ (by omega)) (h _ (by omega))
/-- the way up: who comes out, and the losers -/
def upT (r : Nat → Int) : Nat → Nat → Nat → (Nat → Nat) → Nat × (Nat → Nat)
  | 0, _, cur, L => (cur, L)
  | k + 1, n, cur, L => if n < 1 then (cur, L) else upT r k (n / 2) (mn r cur (L n)) (va_up L n (mx r cur (L n)))
theorem up_ok {r r' : Nat → Int} {f : Nat} {L : Nat → Nat} (hf : f < 8) (hw : wN r 1 = f) (hne : ∀ i j, i < 8 → j < 8 → i ≠ j → r i ≠ r j) (hne' : ∀ i j, i < 8 → j < 8 → i ≠ j → r' i ≠ r' j) (h : ∀ j, j ≠ f → r' j = r j) (hL : ∀ n, 1 ≤ n → n ≤ 7 → L n = lS r n) :
    (upT r' 4 ((8 + f) / 2) f L).1 = wN r' 1 ∧ ∀ n, 1 ≤ n → n ≤ 7 → (upT r' 4 ((8 + f) / 2) f L).2 n = lS r' n := by
  obtain ⟨c1, e1⟩ : ∃ c, c = (8 + f) / 2 := ⟨_, rfl⟩
  obtain ⟨c2, e2⟩ : ∃ c, c = (8 + f) / 4 := ⟨_, rfl⟩
  have sib : ∀ c n, n = c / 2 → ((c = 2 * n ∧ (2 * n + 1 - (c - 2 * n)) = 2 * n + 1) ∨ (c = 2 * n + 1 ∧ (2 * n + 1 - (c - 2 * n)) = 2 * n)) := fun c n h => by omega
  have w2 : wN r c2 = f := by rw [← hw]; exact wN_way (s := 2 * 1 + 1 - (c2 - 2 * 1)) (by omega) (by omega) (sib c2 1 (by omega)) (by rw [hw]; unfold below_; omega)
  have w1 : wN r c1 = f := by rw [← w2]; exact wN_way (s := 2 * c2 + 1 - (c1 - 2 * c2)) (by omega) (by omega) (sib c1 c2 (by omega)) (by rw [w2]; unfold below_; omega)
  have w0 : wN r (8 + f) = f := wN_leaf
  have mi : ∀ j, j < 8 → j ≠ f → r f < r j := fun j hj hne2 => by
    have a := wN_min r j hj
    rw [hw] at a
    have b := hne f j hf hj (Ne.symm hne2)
    omega
  have one : ∀ n c s, 1 ≤ n → n ≤ 7 → ((c = 2 * n ∧ s = 2 * n + 1) ∨ (c = 2 * n + 1 ∧ s = 2 * n)) → wN r c = f → below_ c f → lS r n = wN r' s ∧ mn r' (wN r' c) (wN r' s) = wN r' n ∧ mx r' (wN r' c) (wN r' s) = lS r' n := fun n c s g1 g2 g3 g4 g5 => by
    have is1 := wN_in r (n := s) (by omega) (by omega)
    have is2 := wN_in r' (n := s) (by omega) (by omega)
    have ic2 := wN_in r' (n := c) (by omega) (by omega)
    have hsame := wN_same h (n := s) (by omega) (by omega) (by unfold below_ at g5 ⊢; omega)
    have hd : r' (wN r' c) ≠ r' (wN r' s) := hne' _ _ (by unfold below_ at ic2; omega) (by unfold below_ at is2; omega) (by unfold below_ at ic2 is2; omega)
    exact up_one g1 g2 g3 g4 (mi _ (by unfold below_ at is1; omega) (by unfold below_ at is1 g5; omega)) hsame hd
  obtain ⟨p1, p2, p3⟩ := one c1 (8 + f) (2 * c1 + 1 - (8 + f - 2 * c1)) (by omega) (by omega) (sib _ _ (by omega)) w0 (by unfold below_; omega)
  obtain ⟨q1, q2, q3⟩ := one c2 c1 (2 * c2 + 1 - (c1 - 2 * c2)) (by omega) (by omega) (sib _ _ (by omega)) w1 (by unfold below_; omega)
  obtain ⟨t1, t2, t3⟩ := one 1 c2 (2 * 1 + 1 - (c2 - 2 * 1)) (by omega) (by omega) (sib _ _ (by omega)) w2 (by unfold below_; omega)
  have l0 : wN r' (8 + f) = f := wN_leaf
  rw [l0] at p2 p3
  rw [← e1]
  have hc12 : c1 ≠ c2 := by omega
  have hc11 : c1 ≠ 1 := by omega
  have hc21 : c2 ≠ 1 := by omega
  have u1 : L c1 = wN r' (2 * c1 + 1 - (8 + f - 2 * c1)) := by rw [hL _ (by omega) (by omega), p1]
  have u2 : L c2 = wN r' (2 * c2 + 1 - (c1 - 2 * c2)) := by rw [hL _ (by omega) (by omega), q1]
  have u3 : L 1 = wN r' (2 * 1 + 1 - (c2 - 2 * 1)) := by rw [hL _ (by omega) (by omega), t1]
  have s1 : upT r' 4 c1 f L = upT r' 3 c2 (wN r' c1) (va_up L c1 (lS r' c1)) := by
    rw [upT, if_neg (by omega), show c1 / 2 = c2 by omega, u1, p2, p3]
  have s2 : upT r' 3 c2 (wN r' c1) (va_up L c1 (lS r' c1)) = upT r' 2 1 (wN r' c2) (va_up (va_up L c1 (lS r' c1)) c2 (lS r' c2)) := by
    have v : va_up L c1 (lS r' c1) c2 = L c2 := by simp [va_up, Ne.symm hc12]
    rw [upT, if_neg (by omega), show c2 / 2 = 1 by omega, v, u2, q2, q3]
  have s3 : upT r' 2 1 (wN r' c2) (va_up (va_up L c1 (lS r' c1)) c2 (lS r' c2)) = (wN r' 1, va_up (va_up (va_up L c1 (lS r' c1)) c2 (lS r' c2)) 1 (lS r' 1)) := by
    have v : va_up (va_up L c1 (lS r' c1)) c2 (lS r' c2) 1 = L 1 := by simp [va_up, Ne.symm hc11, Ne.symm hc21]
    rw [upT, if_neg (by omega), v, u3, t2, t3, upT, if_pos (by omega)]
  rw [s1, s2, s3]
  refine ⟨rfl, fun n g1 g2 => ?_⟩
  show va_up (va_up (va_up L c1 (lS r' c1)) c2 (lS r' c2)) 1 (lS r' 1) n = lS r' n
  by_cases a1 : n = 1
  · subst a1; simp [va_up]
  by_cases a2 : n = c2
  · subst a2; simp [va_up, a1]
  by_cases a3 : n = c1
  · subst a3; simp [va_up, a1, a2]
  simp only [va_up, if_neg a1, if_neg a2, if_neg a3]
  rw [hL n g1 g2]
  unfold lS
  have nb : ∀ m, (m = 2 * n ∨ m = 2 * n + 1) → ¬ below_ m f := fun m hm => by unfold below_; omega
  rw [wN_same h (by omega) (by omega) (nb _ (Or.inl rfl)), wN_same h (by omega) (by omega) (nb _ (Or.inr rfl))]
  have i1 := wN_in r (n := 2 * n) (by omega) (by omega)
  have i2 := wN_in r (n := 2 * n + 1) (by omega) (by omega)
  have n1 := nb _ (Or.inl rfl)
  have n2 := nb _ (Or.inr rfl)
  unfold below_ at i1 i2 n1 n2
  unfold mx
  rw [h _ (by omega), h _ (by omega)]
/-! the keys that stand at the leaves -/
def tk (F : Nat → List (Int × Int)) (P : Nat → Nat) (i : Nat) : Int := if i < 5 ∧ P i < (F i).length then kA (F i) (P i) else 1000
def rk (F : Nat → List (Int × Int)) (P : Nat → Nat) (i : Nat) : Int := tk F P i * 8 + (i : Int)
theorem tk_in {F : Nat → List (Int × Int)} {P : Nat → Nat} (hF : ∀ i, i < 5 → zIn (F i)) (i : Nat) : -999 ≤ tk F P i ∧ tk F P i ≤ 1000 ∧ (tk F P i = 1000 ↔ ¬ (i < 5 ∧ P i < (F i).length)) := by
  unfold tk
  by_cases h : i < 5 ∧ P i < (F i).length
  · have := (hF i h.1).at (P i)
    rw [if_pos h]
    exact ⟨by omega, by omega, by constructor <;> intro q <;> first | omega | exact absurd h q⟩
  · rw [if_neg h]
    exact ⟨by omega, by omega, by simp [h]⟩
theorem rk_ne (F : Nat → List (Int × Int)) (P : Nat → Nat) : ∀ i j, i < 8 → j < 8 → i ≠ j → rk F P i ≠ rk F P j := fun i j hi hj h => by
  unfold rk; omega
/-- the tournament over rows 2 .. 6 -/
def zTo (M : zM) (F : Nat → List (Int × Int)) (P : Nat → Nat) : Prop := M 84 1 = 8 ∧ M 84 5 = 5 ∧ (∀ i, i < 5 → M 85 i = ((2 + i : Nat) : Int) ∧ M 86 i = (P i : Int) ∧ P i ≤ (F i).length ∧ zRow M (2 + i) (F i) ∧ zIn (F i))
