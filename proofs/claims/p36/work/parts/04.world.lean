/-! The world of one MoraineSort: 97 cells, told by their numbers; what changes in them is a table of integers.
numbers: 3r, 3r+1, 3r+2: row r (0..11 the files, 12 the outcome's, 13..15 and 16..18 those of the splitting, 19 its spare one), its keys, its marks;
60+2n, 61+2n: list n (4p .. 4p+3: run sizes, merge runs, merge sizes, row of plan p), its values; 76+2h, 77+2h: heap h (p: of plan p; 2: the sorter's own);
82+p: plan p (0 latest, 1 trial); 84..88: tournament, its rows, places, losers, winners; 89 outcome; 90..92 splitting, ones, others; 93, 94 key set, its words; 95 the sorter, 96 its files -/
abbrev vwCl : List vw_C := [(RX0, TX0, 2), (RX1, TX1, 1), (RX2, TX2, 2), (RX3, TX3, 5), (RX4, TX4, 8), (RX5, TX5, 3), (RX6, TX6, 5), (RX7, TX7, 10), (RX8, TX8, 14)]
abbrev zM : Type := Nat → Nat → Int
def jI (x : Int) : Int32 := Int32.ofInt x
def jL (x : Int) : Int64 := Int64.ofInt x
/-- one place of the table set -/
def zu (M : zM) (o k : Nat) (v : Int) : zM := va_up M o (va_up (M o) k v)
theorem zu_s (M : zM) (o k : Nat) (v : Int) : zu M o k v o k = v := by simp [zu, va_up]
theorem zu_k (M : zM) (o k : Nat) (v : Int) {k' : Nat} (h : k' ≠ k) : zu M o k v o k' = M o k' := by simp [zu, va_up, h]
theorem zu_o (M : zM) (o k : Nat) (v : Int) {o' : Nat} (h : o' ≠ o) : zu M o k v o' = M o' := by simp [zu, va_up, h]
theorem zu_at (M : zM) (o k : Nat) (v : Int) (o' k' : Nat) : zu M o k v o' k' = if o' = o ∧ k' = k then v else M o' k' := by
  by_cases h : o' = o
  · subst h
    by_cases h2 : k' = k
    · subst h2; simp [zu_s]
    · simp [zu_k _ _ _ _ h2, h2]
  · simp [zu_o _ _ _ _ h, h]
def z_rw (ad : Nat → Nat) (x : Int) : Option Nat := if x < 0 then none else some (ad (3 * x.toNat))
def z_e (ad : Nat → Nat) (cI cJ cO : ClassId) (o : Nat) (m : Nat → Int) : va_E :=
  if o < 60 then
    if o % 3 = 0 then .inr (5, [.ref (ad (o + 1)), .ref (ad (o + 2)), .int (jI (m 2))])
    else .inl (cI, 120, .inl (fun j => jI (m j)))
  else if o < 76 then
    if o % 2 = 0 then .inr (2, [.ref (ad (o + 1)), .int (jI (m 1))])
    else .inl (cI, 120, .inl (fun j => jI (m j)))
  else if o < 82 then
    if o % 2 = 0 then .inr (0, [.ref (ad (o + 1)), .int (jI (m 1))])
    else .inl (cI, 120, .inl (fun j => jI (m j)))
  else if o < 84 then
    .inr (4, [.ref (ad (60 + 2 * (4 * (o - 82)))), .ref (ad (60 + 2 * (4 * (o - 82) + 1))), .ref (ad (60 + 2 * (4 * (o - 82) + 2))), .int (jI (m 3)), .int (jI (m 4)), .ref (ad (60 + 2 * (4 * (o - 82) + 3))), .ref (ad (76 + 2 * (o - 82))), .int (jI (m 7))])
  else if o = 84 then
    .inr (7, [.int (jI (m 0)), .int (jI (m 1)), .int (jI (m 2)), .int (jI (m 3)), .int (jI (m 4)), .int (jI (m 5)), .ref (ad 85), .ref (ad 86), .ref (ad 87), .ref (ad 88)])
  else if o = 85 then .inl (cO, 8, .inr (.inr (.inr (.inr (fun j => z_rw ad (m j))))))
  else if o = 86 then .inl (cI, 8, .inl (fun j => jI (m j)))
  else if o = 87 then .inl (cI, 8, .inl (fun j => jI (m j)))
  else if o = 88 then .inl (cI, 16, .inl (fun j => jI (m j)))
  else if o = 89 then .inr (3, [.ref (ad (3 * 12)), .int (jI (m 1)), .int (jI (m 2)), .int (jI (m 3)), .int (jI (m 4))])
  else if o = 90 then .inr (6, [.int (jI (m 0)), .int (jI (m 1)), .ref (ad 91), .ref (ad 92), .ref (ad (3 * 19))])
  else if o = 91 then .inl (cO, 3, .inr (.inr (.inr (.inr (fun j => some (ad (3 * (13 + j))))))))
  else if o = 92 then .inl (cO, 3, .inr (.inr (.inr (.inr (fun j => some (ad (3 * (16 + j))))))))
  else if o = 93 then .inr (1, [.ref (ad 94)])
  else if o = 94 then .inl (cJ, 32, .inr (.inl (fun j => jL (m j))))
  else if o = 95 then
    .inr (8, [.ref (ad 96), .int (jI (m 1)), .int (jI (m 2)), .int (jI (m 3)), .int (jI (m 4)), .int (jI (m 5)), .int (jI (m 6)), .ref (ad (82 + 0)), .ref (ad (82 + 1)), .ref (ad (76 + 2 * 2)), .ref (ad 84), .ref (ad 89), .ref (ad 90), .ref (ad 93)])
  else .inl (cO, 12, .inr (.inr (.inr (.inr (fun j => some (ad (3 * j)))))))
section
variable {ad : Nat → Nat} {cI cJ cO : ClassId} {m : Nat → Int}
theorem ze_row {r : Nat} (h : r < 20) : z_e ad cI cJ cO (3 * r) m = .inr (5, [.ref (ad (3 * r + 1)), .ref (ad (3 * r + 2)), .int (jI (m 2))]) := by
  unfold z_e; rw [if_pos (by omega), if_pos (by omega)]
theorem ze_keys {r : Nat} (h : r < 20) : z_e ad cI cJ cO (3 * r + 1) m = .inl (cI, 120, .inl (fun j => jI (m j))) := by
  unfold z_e; rw [if_pos (by omega), if_neg (by omega)]
theorem ze_marks {r : Nat} (h : r < 20) : z_e ad cI cJ cO (3 * r + 2) m = .inl (cI, 120, .inl (fun j => jI (m j))) := by
  unfold z_e; rw [if_pos (by omega), if_neg (by omega)]
theorem ze_num {n : Nat} (h : n < 8) : z_e ad cI cJ cO (60 + 2 * n) m = .inr (2, [.ref (ad (61 + 2 * n)), .int (jI (m 1))]) := by
  unfold z_e; rw [if_neg (by omega), if_pos (by omega), if_pos (by omega), show 60 + 2 * n + 1 = 61 + 2 * n by omega]
theorem ze_vals {n : Nat} (h : n < 8) : z_e ad cI cJ cO (61 + 2 * n) m = .inl (cI, 120, .inl (fun j => jI (m j))) := by
  unfold z_e; rw [if_neg (by omega), if_pos (by omega), if_neg (by omega)]
theorem ze_heap {n : Nat} (h : n < 3) : z_e ad cI cJ cO (76 + 2 * n) m = .inr (0, [.ref (ad (77 + 2 * n)), .int (jI (m 1))]) := by
  unfold z_e; rw [if_neg (by omega), if_neg (by omega), if_pos (by omega), if_pos (by omega), show 76 + 2 * n + 1 = 77 + 2 * n by omega]
theorem ze_held {n : Nat} (h : n < 3) : z_e ad cI cJ cO (77 + 2 * n) m = .inl (cI, 120, .inl (fun j => jI (m j))) := by
  unfold z_e; rw [if_neg (by omega), if_neg (by omega), if_pos (by omega), if_neg (by omega)]
theorem ze_plan {p : Nat} (h : p < 2) : z_e ad cI cJ cO (82 + p) m = .inr (4, [.ref (ad (60 + 2 * (4 * p))), .ref (ad (60 + 2 * (4 * p + 1))), .ref (ad (60 + 2 * (4 * p + 2))), .int (jI (m 3)), .int (jI (m 4)), .ref (ad (60 + 2 * (4 * p + 3))), .ref (ad (76 + 2 * p)), .int (jI (m 7))]) := by
  unfold z_e; rw [if_neg (by omega), if_neg (by omega), if_neg (by omega), if_pos (by omega), show 82 + p - 82 = p by omega]
theorem ze_tour : z_e ad cI cJ cO 84 m = .inr (7, [.int (jI (m 0)), .int (jI (m 1)), .int (jI (m 2)), .int (jI (m 3)), .int (jI (m 4)), .int (jI (m 5)), .ref (ad 85), .ref (ad 86), .ref (ad 87), .ref (ad 88)]) := rfl
theorem ze_trows : z_e ad cI cJ cO 85 m = .inl (cO, 8, .inr (.inr (.inr (.inr (fun j => z_rw ad (m j)))))) := rfl
theorem ze_places : z_e ad cI cJ cO 86 m = .inl (cI, 8, .inl (fun j => jI (m j))) := rfl
theorem ze_losers : z_e ad cI cJ cO 87 m = .inl (cI, 8, .inl (fun j => jI (m j))) := rfl
theorem ze_winners : z_e ad cI cJ cO 88 m = .inl (cI, 16, .inl (fun j => jI (m j))) := rfl
theorem ze_out : z_e ad cI cJ cO 89 m = .inr (3, [.ref (ad (3 * 12)), .int (jI (m 1)), .int (jI (m 2)), .int (jI (m 3)), .int (jI (m 4))]) := rfl
theorem ze_spl : z_e ad cI cJ cO 90 m = .inr (6, [.int (jI (m 0)), .int (jI (m 1)), .ref (ad 91), .ref (ad 92), .ref (ad (3 * 19))]) := rfl
theorem ze_ones : z_e ad cI cJ cO 91 m = .inl (cO, 3, .inr (.inr (.inr (.inr (fun j => some (ad (3 * (13 + j)))))))) := rfl
theorem ze_others : z_e ad cI cJ cO 92 m = .inl (cO, 3, .inr (.inr (.inr (.inr (fun j => some (ad (3 * (16 + j)))))))) := rfl
theorem ze_kset : z_e ad cI cJ cO 93 m = .inr (1, [.ref (ad 94)]) := rfl
theorem ze_words : z_e ad cI cJ cO 94 m = .inl (cJ, 32, .inr (.inl (fun j => jL (m j)))) := rfl
theorem ze_ms : z_e ad cI cJ cO 95 m = .inr (8, [.ref (ad 96), .int (jI (m 1)), .int (jI (m 2)), .int (jI (m 3)), .int (jI (m 4)), .int (jI (m 5)), .int (jI (m 6)), .ref (ad (82 + 0)), .ref (ad (82 + 1)), .ref (ad (76 + 2 * 2)), .ref (ad 84), .ref (ad 89), .ref (ad 90), .ref (ad 93)]) := rfl
theorem ze_files : z_e ad cI cJ cO 96 m = .inl (cO, 12, .inr (.inr (.inr (.inr (fun j => some (ad (3 * j))))))) := rfl
end
/-- the cells as a list -/
def z_w (ad : Nat → Nat) (cI cJ cO : ClassId) (M : zM) : va_W := (List.range 97).map (fun o => (ad o, z_e ad cI cJ cO o (M o)))
theorem zw_at {ad : Nat → Nat} {cI cJ cO : ClassId} {M : zM} {o : Nat} (h : o < 97) : (z_w ad cI cJ cO M)[o]? = some (ad o, z_e ad cI cJ cO o (M o)) := by
  simp [z_w, h]
theorem zw_out {ad : Nat → Nat} {cI cJ cO : ClassId} {M : zM} {o : Nat} (h : ¬ o < 97) : (z_w ad cI cJ cO M)[o]? = none := by
  simp [z_w]; omega
theorem zw_set {ad : Nat → Nat} {cI cJ cO : ClassId} {M : zM} {o : Nat} (h : o < 97) (m : Nat → Int) : (z_w ad cI cJ cO M).set o (ad o, z_e ad cI cJ cO o m) = z_w ad cI cJ cO (va_up M o m) := by
  refine List.ext_getElem? fun i => ?_
  by_cases hi : i = o
  · subst hi
    rw [List.getElem?_set_self (by simp [z_w]; exact h), zw_at h]
    simp [va_up]
  · rw [List.getElem?_set_ne (Ne.symm hi)]
    by_cases hb : i < 97
    · rw [zw_at hb, zw_at hb]
      simp [va_up, hi]
    · rw [zw_out hb, zw_out hb]
/-! the locals as a row of places -/
def z_al : Nat → List (Option Value) → List (Nat × Value)
  | _, [] => []
  | i, none :: t => z_al (i + 1) t
  | i, some v :: t => (i, v) :: z_al (i + 1) t
theorem zal_mem {i : Nat} {v : Value} : ∀ (k : Nat) (l : List (Option Value)), (i, v) ∈ z_al k l ↔ k ≤ i ∧ l[i - k]? = some (some v)
  | k, [] => by simp [z_al]
  | k, none :: t => by
    rw [z_al, zal_mem (k + 1) t]
    by_cases h : i = k
    · subst h; simp; omega
    · by_cases h2 : k ≤ i
      · rw [show i - k = (i - (k + 1)) + 1 by omega, List.getElem?_cons_succ]
        constructor
        · rintro ⟨-, h3⟩; exact ⟨h2, h3⟩
        · rintro ⟨-, h3⟩; exact ⟨by omega, h3⟩
      · constructor
        · rintro ⟨h3, -⟩; omega
        · rintro ⟨h3, -⟩; omega
  | k, some w :: t => by
    rw [z_al, List.mem_cons, zal_mem (k + 1) t]
    by_cases h : i = k
    · subst h
      simp
      constructor
      · rintro (h | ⟨h, -⟩)
        · exact h.symm
        · omega
      · intro h; exact Or.inl h.symm
    · by_cases h2 : k ≤ i
      · rw [show i - k = (i - (k + 1)) + 1 by omega, List.getElem?_cons_succ]
        constructor
        · rintro (h3 | ⟨-, h3⟩)
          · exact absurd (congrArg Prod.fst h3) h
          · exact ⟨h2, h3⟩
        · rintro ⟨-, h3⟩; exact Or.inr ⟨by omega, h3⟩
      · constructor
        · rintro (h3 | ⟨h3, -⟩)
          · exact absurd (congrArg Prod.fst h3) h
          · omega
        · rintro ⟨h3, -⟩; omega
theorem zal_get {ls : Array Slot} {n : Nat} {lv : List (Option Value)} (h : lv_has ls n (z_al 0 lv)) {i : Nat} {v : Value} (hi : lv[i]? = some (some v)) : ls[i]? = some (.val v) :=
  h.2.2 (i, v) ((zal_mem 0 lv).mpr ⟨Nat.zero_le _, hi⟩)
def z_c2 : Option (Option Value) → Bool
  | some (some v) => v.category == 2
  | _ => false
/-- a value of one slot stored -/
def z_st (lv : List (Option Value)) (i : Nat) (v : Value) : List (Option Value) := match i with
  | 0 => lv.set 0 (some v)
  | i + 1 => (if z_c2 lv[i]? then lv.set i none else lv).set (i + 1) (some v)
/-- a value of two slots stored -/
def z_st2 (lv : List (Option Value)) (i : Nat) (v : Value) : List (Option Value) := (z_st lv i v).set (i + 1) none
theorem zst_len (lv : List (Option Value)) (i : Nat) (v : Value) : (z_st lv i v).length = lv.length := by
  cases i with
  | zero => simp [z_st]
  | succ i =>
    unfold z_st
    by_cases h : z_c2 lv[i]? <;> simp [h]
theorem zst2_len (lv : List (Option Value)) (i : Nat) (v : Value) : (z_st2 lv i v).length = lv.length := by simp [z_st2, zst_len]
theorem zst_sub {lv : List (Option Value)} {i j : Nat} {v w : Value} (h : (z_st lv i v)[j]? = some (some w)) : (j = i ∧ w = v) ∨ (j ≠ i ∧ lv[j]? = some (some w) ∧ ¬ (j + 1 = i ∧ w.category = 2)) := by
  by_cases hj : j = i
  · subst hj
    refine Or.inl ⟨rfl, ?_⟩
    cases j with
    | zero =>
      simp only [z_st, List.getElem?_set_self'] at h
      cases hq : lv[0]? with
      | none => rw [hq] at h; simp at h
      | some a => rw [hq] at h; simp at h; exact h.symm
    | succ j =>
      simp only [z_st, List.getElem?_set_self'] at h
      cases hq : (if z_c2 lv[j]? = true then lv.set j none else lv)[j + 1]? with
      | none => rw [hq] at h; simp at h
      | some a => rw [hq] at h; simp at h; exact h.symm
  · refine Or.inr ⟨hj, ?_⟩
    cases i with
    | zero =>
      simp only [z_st] at h
      rw [List.getElem?_set_ne (Ne.symm hj)] at h
      exact ⟨h, by omega⟩
    | succ i =>
      simp only [z_st] at h
      rw [List.getElem?_set_ne (Ne.symm hj)] at h
      by_cases hc : z_c2 lv[i]? = true
      · rw [if_pos hc] at h
        by_cases hji : j = i
        · subst hji
          rw [List.getElem?_set_self'] at h
          cases hq : lv[j]? with
          | none => rw [hq] at h; simp at h
          | some a => rw [hq] at h; simp at h
        · rw [List.getElem?_set_ne (Ne.symm hji)] at h
          exact ⟨h, by omega⟩
      · rw [if_neg hc] at h
        refine ⟨h, ?_⟩
        rintro ⟨h1, h2⟩
        have : j = i := by omega
        subst this
        rw [h] at hc
        simp [z_c2, h2] at hc
theorem zst_has {ls : Array Slot} {n i : Nat} {lv : List (Option Value)} {v : Value} (h : lv_has ls n ((i, v) :: (z_al 0 lv).filter (fun q => !(q.1 == i) && !(q.1 + 1 == i && q.2.category == 2)))) : lv_has ls n (z_al 0 (z_st lv i v)) := by
  refine ⟨h.1, h.2.1, fun q hq => ?_⟩
  obtain ⟨j, w⟩ := q
  obtain ⟨-, h2⟩ := (zal_mem 0 _).mp hq
  rw [Nat.sub_zero] at h2
  rcases zst_sub h2 with ⟨rfl, rfl⟩ | ⟨h3, h4, h5⟩
  · exact h.2.2 _ List.mem_cons_self
  · refine h.2.2 _ (List.mem_cons_of_mem _ (List.mem_filter.mpr ⟨(zal_mem 0 lv).mpr ⟨Nat.zero_le _, h4⟩, ?_⟩))
    have h6 : (j == i) = false := by simpa using h3
    by_cases hc : j + 1 = i
    · have : ¬ w.category = 2 := fun q => h5 ⟨hc, q⟩
      simp [h6, this]
    · simp [h6, hc]
theorem zst2_has {ls : Array Slot} {n i : Nat} {lv : List (Option Value)} {v : Value} (h : lv_has ls n ((i, v) :: (z_al 0 lv).filter (fun q => !(q.1 == i) && (!(q.1 == i + 1) && !(q.1 + 1 == i && q.2.category == 2))))) : lv_has ls n (z_al 0 (z_st2 lv i v)) := by
  refine ⟨h.1, h.2.1, fun q hq => ?_⟩
  obtain ⟨j, w⟩ := q
  obtain ⟨-, h2⟩ := (zal_mem 0 _).mp hq
  rw [Nat.sub_zero] at h2
  unfold z_st2 at h2
  by_cases hj1 : j = i + 1
  · subst hj1
    rw [List.getElem?_set_self'] at h2
    cases hq : (z_st lv i v)[i + 1]? with
    | none => rw [hq] at h2; simp at h2
    | some a => rw [hq] at h2; simp at h2
  rw [List.getElem?_set_ne (Ne.symm hj1)] at h2
  rcases zst_sub h2 with ⟨rfl, rfl⟩ | ⟨h3, h4, h5⟩
  · exact h.2.2 _ List.mem_cons_self
  · refine h.2.2 _ (List.mem_cons_of_mem _ (List.mem_filter.mpr ⟨(zal_mem 0 lv).mpr ⟨Nat.zero_le _, h4⟩, ?_⟩))
    have h6 : (j == i) = false := by simpa using h3
    have h7 : (j == i + 1) = false := by simpa using hj1
    by_cases hc : j + 1 = i
    · have : ¬ w.category = 2 := fun q => h5 ⟨hc, q⟩
      simp [h6, h7, this]
    · simp [h6, h7, hc]
/-- fewer places known -/
def z_mk : List Bool → List (Option Value) → List (Option Value)
  | [], _ => []
  | _, [] => []
  | b :: bs, v :: vs => (if b then v else none) :: z_mk bs vs
theorem zmk_len : ∀ (bs : List Bool) (lv : List (Option Value)), bs.length = lv.length → (z_mk bs lv).length = lv.length
  | [], [], _ => rfl
  | b :: bs, v :: vs, h => by simp [z_mk, zmk_len bs vs (by simpa using h)]
  | [], _ :: _, h => by simp at h
  | _ :: _, [], h => by simp at h
theorem zmk_sub : ∀ (bs : List Bool) (lv : List (Option Value)) (j : Nat) (w : Value), (z_mk bs lv)[j]? = some (some w) → lv[j]? = some (some w)
  | [], _, _, _, h => by simp [z_mk] at h
  | _ :: _, [], _, _, h => by simp [z_mk] at h
  | b :: bs, v :: vs, 0, w, h => by
    cases b
    · simp [z_mk] at h
    · simpa [z_mk] using h
  | b :: bs, v :: vs, j + 1, w, h => by
    simp only [z_mk, List.getElem?_cons_succ] at h ⊢
    exact zmk_sub bs vs j w h
theorem zmk_has {ls : Array Slot} {n : Nat} {lv : List (Option Value)} (bs : List Bool) (h : lv_has ls n (z_al 0 lv)) : lv_has ls n (z_al 0 (z_mk bs lv)) := by
  refine ⟨h.1, h.2.1, fun q hq => ?_⟩
  obtain ⟨j, w⟩ := q
  obtain ⟨-, h2⟩ := (zal_mem 0 _).mp hq
  rw [Nat.sub_zero] at h2
  exact h.2.2 _ ((zal_mem 0 lv).mpr ⟨Nat.zero_le _, zmk_sub bs lv j w h2⟩)
