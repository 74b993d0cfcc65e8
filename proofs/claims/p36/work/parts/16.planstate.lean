/-! a plan's cells -/
def zPl (M : zM) (p : Nat) (pg : Int) (rs : List Int) (z : zZ) : Prop := zNum M (4 * p) rs ∧ zNum M (4 * p + 3) z.1 ∧ M (82 + p) 3 = z.2.1 ∧ M (82 + p) 4 = z.2.2.1 ∧ zNum M (4 * p + 1) z.2.2.2.1 ∧ zNum M (4 * p + 2) z.2.2.2.2 ∧ M (82 + p) 7 = pg
def zFp (M M' : zM) (p : Nat) : Prop := ∀ o, (o < 60 + 8 * p ∨ 68 + 8 * p ≤ o) → o ≠ 76 + 2 * p → o ≠ 77 + 2 * p → o ≠ 82 + p → M' o = M o
theorem zFp.refl {M : zM} {p : Nat} : zFp M M p := fun _ _ _ _ _ => rfl
theorem zFp.trans {M M1 M2 : zM} {p : Nat} (h1 : zFp M M1 p) (h2 : zFp M1 M2 p) : zFp M M2 p := fun o a b c d => (h2 o a b c d).trans (h1 o a b c d)
theorem zFp.num {M M' : zM} {p n : Nat} (h : zFn M M' n) (h1 : 4 * p ≤ n) (h2 : n ≤ 4 * p + 3) : zFp M M' p := fun o a _ _ _ => h o (by omega) (by omega)
theorem zFp.heap {M M' : zM} {p : Nat} (h : zFh M M' p) : zFp M M' p := fun o _ b c _ => h o b c
theorem zFp.fld {M : zM} {p k : Nat} {v : Int} : zFp M (zu M (82 + p) k v) p := fun o _ _ _ d => zu_o _ _ _ _ d
theorem zNum.fld {M : zM} {p n k : Nat} {v : Int} {L : List Int} (hp : p < 2) (hn : n < 8) (h : zNum M n L) : zNum (zu M (82 + p) k v) n L := h.keep (zu_o _ _ _ _ (by omega)) (zu_o _ _ _ _ (by omega))
section
variable {M M' : zM} {p : Nat} {pg : Int} {rs : List Int} {z : zZ}
theorem zPl.rd (hp : p < 2) (h : zPl M p pg rs z) (v : Int) : zPl (zu M (82 + p) 3 v) p pg rs (z.1, v, z.2.2) :=
  ⟨h.1.fld hp (by omega), h.2.1.fld hp (by omega), zu_s _ _ _ _, (zu_k _ _ _ _ (by omega)).trans h.2.2.2.1, h.2.2.2.2.1.fld hp (by omega), h.2.2.2.2.2.1.fld hp (by omega), (zu_k _ _ _ _ (by omega)).trans h.2.2.2.2.2.2⟩
theorem zPl.wr (hp : p < 2) (h : zPl M p pg rs z) (v : Int) : zPl (zu M (82 + p) 4 v) p pg rs (z.1, z.2.1, v, z.2.2.2) :=
  ⟨h.1.fld hp (by omega), h.2.1.fld hp (by omega), (zu_k _ _ _ _ (by omega)).trans h.2.2.1, zu_s _ _ _ _, h.2.2.2.2.1.fld hp (by omega), h.2.2.2.2.2.1.fld hp (by omega), (zu_k _ _ _ _ (by omega)).trans h.2.2.2.2.2.2⟩
theorem zPl.row (hp : p < 2) (h : zPl M p pg rs z) {L : List Int} (h1 : zNum M' (4 * p + 3) L) (hf : zFn M M' (4 * p + 3)) : zPl M' p pg rs (L, z.2) := by
  have e := hf (82 + p) (by omega) (by omega)
  exact ⟨h.1.apart hf (by omega), h1, by rw [e]; exact h.2.2.1, by rw [e]; exact h.2.2.2.1, h.2.2.2.2.1.apart hf (by omega), h.2.2.2.2.2.1.apart hf (by omega), by rw [e]; exact h.2.2.2.2.2.2⟩
theorem zPl.mr (hp : p < 2) (h : zPl M p pg rs z) {L : List Int} (h1 : zNum M' (4 * p + 1) L) (hf : zFn M M' (4 * p + 1)) : zPl M' p pg rs (z.1, z.2.1, z.2.2.1, L, z.2.2.2.2) := by
  have e := hf (82 + p) (by omega) (by omega)
  exact ⟨h.1.apart hf (by omega), h.2.1.apart hf (by omega), by rw [e]; exact h.2.2.1, by rw [e]; exact h.2.2.2.1, h1, h.2.2.2.2.2.1.apart hf (by omega), by rw [e]; exact h.2.2.2.2.2.2⟩
theorem zPl.ms (hp : p < 2) (h : zPl M p pg rs z) {L : List Int} (h1 : zNum M' (4 * p + 2) L) (hf : zFn M M' (4 * p + 2)) : zPl M' p pg rs (z.1, z.2.1, z.2.2.1, z.2.2.2.1, L) := by
  have e := hf (82 + p) (by omega) (by omega)
  exact ⟨h.1.apart hf (by omega), h.2.1.apart hf (by omega), by rw [e]; exact h.2.2.1, by rw [e]; exact h.2.2.2.1, h.2.2.2.2.1.apart hf (by omega), h1, by rw [e]; exact h.2.2.2.2.2.2⟩
theorem zPl.runs (hp : p < 2) (h : zPl M p pg rs z) {L : List Int} (h1 : zNum M' (4 * p) L) (hf : zFn M M' (4 * p)) : zPl M' p pg L z := by
  have e := hf (82 + p) (by omega) (by omega)
  exact ⟨h1, h.2.1.apart hf (by omega), by rw [e]; exact h.2.2.1, by rw [e]; exact h.2.2.2.1, h.2.2.2.2.1.apart hf (by omega), h.2.2.2.2.2.1.apart hf (by omega), by rw [e]; exact h.2.2.2.2.2.2⟩
theorem zPl.heap (h : zPl M p pg rs z) (hp : p < 2) (hf : zFh M M' p) : zPl M' p pg rs z := by
  have e := hf (82 + p) (by omega) (by omega)
  have k : ∀ n L, n < 8 → zNum M n L → zNum M' n L := fun n L hn g => g.keep (hf _ (by omega) (by omega)) (hf _ (by omega) (by omega))
  exact ⟨k _ _ (by omega) h.1, k _ _ (by omega) h.2.1, by rw [e]; exact h.2.2.1, by rw [e]; exact h.2.2.2.1, k _ _ (by omega) h.2.2.2.2.1, k _ _ (by omega) h.2.2.2.2.2.1, by rw [e]; exact h.2.2.2.2.2.2⟩
end
/-- a stretch's pages, one more -/
theorem sm_map1 {L : List Int} {pg : Int} {a b : Nat} (h1 : a ≤ b) (h2 : b < L.length) : sm (L.map (fun v => pgs v pg)) a (b + 1) = sm (L.map (fun v => pgs v pg)) a b + pgs (nA L b) pg := by
  rw [sm_1 h1 (by simpa using h2)]
  congr 1
  rw [nA_get (by simpa using h2), nA_get h2]; simp
theorem sm_take {L : List Int} {a fan : Nat} : ((L.drop a).take fan).sum = sm L a (min (a + fan) L.length) := by
  unfold sm
  by_cases h : a + fan ≤ L.length
  · rw [show min (a + fan) L.length - a = fan by omega]
  · rw [show min (a + fan) L.length = L.length by omega, List.take_of_length_le (by rw [List.length_drop]; omega), List.take_of_length_le (by rw [List.length_drop]; omega)]
theorem sm_takemap {L : List Int} {f : Int → Int} {a fan : Nat} (h : a < L.length) : sm (((L.drop a).take fan).map f) 0 ((L.drop a).take fan).length = sm (L.map f) a (min (a + fan) L.length) := by
  rw [show ((L.drop a).take fan).length = (((L.drop a).take fan).map f).length by simp, sm_all, List.map_take, List.map_drop, sm_take]
  simp
/-- the chunk at a place of a row, as the machine goes through it -/
theorem mlC_at {pg : Int} {L : List Int} {a fan : Nat} {z : zZ} (h : a < L.length) : mlC pg ((L.drop a).take fan) z =
    if 1 < min (a + fan) L.length - a then (z.1 ++ [sm L a (min (a + fan) L.length)], z.2.1 + sm (L.map (fun v => pgs v pg)) a (min (a + fan) L.length), z.2.2.1 + pgs (sm L a (min (a + fan) L.length)) pg, z.2.2.2.1 ++ [((min (a + fan) L.length - a : Nat) : Int)], z.2.2.2.2 ++ [sm L a (min (a + fan) L.length)])
    else (z.1 ++ [sm L a (min (a + fan) L.length)], z.2) := by
  have hl : ((L.drop a).take fan).length = min (a + fan) L.length - a := by rw [List.length_take, List.length_drop]; omega
  unfold mlC
  rw [sm_takemap h, sm_take, hl]
theorem set_take {L nw : List Int} {v : Int} (h : L.take nw.length = nw) (hl : nw.length < L.length) : (L.set nw.length v).take (nw.length + 1) = nw ++ [v] := by
  rw [List.take_succ, List.take_set_of_le (Nat.le_refl _), h]
  simp [hl]
theorem nA_set {L : List Int} {i j : Nat} {v : Int} (h : j ≠ i) : nA (L.set i v) j = nA L j := by
  unfold nA
  simp [List.getD, List.getElem?_set_ne (Ne.symm h)]
/-- more fuel than is needed changes nothing -/
theorem rlS_fuel (step : Nat) : ∀ (f g rem : Nat) (acc : List Int), rem ≤ f → rem ≤ g → (1 ≤ step ∨ rem = 0) → rlS step f rem acc = rlS step g rem acc
  | 0, g, rem, acc, h1, h2, _ => by
    have : rem = 0 := by omega
    subst this
    cases g <;> simp [rlS]
  | f + 1, 0, rem, acc, h1, h2, _ => by
    have : rem = 0 := by omega
    subst this
    simp [rlS]
  | f + 1, g + 1, rem, acc, h1, h2, h3 => by
    rw [rlS, rlS]
    by_cases h0 : rem = 0
    · rw [if_pos h0, if_pos h0]
    · rw [if_neg h0, if_neg h0]
      exact rlS_fuel step f g (rem - step) _ (by omega) (by omega) (by omega)
