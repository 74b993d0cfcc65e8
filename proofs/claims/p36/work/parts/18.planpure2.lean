theorem mlS_fuel (pg : Int) (fan : Nat) (hf : 1 ≤ fan) : ∀ (f g : Nat) (L : List Int) (z : zZ), L.length ≤ f → L.length ≤ g → mlS pg fan f L z = mlS pg fan g L z
  | 0, g, L, z, h1, h2 => by
    have : L = [] := List.length_eq_zero_iff.mp (by omega)
    subst this
    rw [mlS_nil, mlS_nil]
  | f + 1, 0, L, z, h1, h2 => by
    have : L = [] := List.length_eq_zero_iff.mp (by omega)
    subst this
    rw [mlS_nil, mlS_nil]
  | f + 1, g + 1, L, z, h1, h2 => by
    by_cases h0 : L.length = 0
    · have : L = [] := List.length_eq_zero_iff.mp h0
      subst this
      rw [mlS_nil, mlS_nil]
    · rw [mlS_cons (by omega), mlS_cons (by omega)]
      exact mlS_fuel pg fan hf f g _ _ (by rw [List.length_drop]; omega) (by rw [List.length_drop]; omega)
/-- one chunk more -/
theorem mlS_next {pg : Int} {fan a : Nat} {L : List Int} {z : zZ} (hf : 1 ≤ fan) (h : a < L.length) : mlS pg fan (L.length - a) (L.drop a) z = mlS pg fan (L.length - (a + fan)) (L.drop (a + fan)) (mlC pg ((L.drop a).take fan) z) := by
  rw [show L.length - a = (L.length - a - 1) + 1 by omega, mlS_cons (by rw [List.length_drop]; omega), List.drop_drop]
  exact mlS_fuel pg fan hf _ _ _ _ (by rw [List.length_drop]; omega) (by rw [List.length_drop]; omega)
/-- how many are merged: as many as there are, and what is left fits -/
def mkD (fan len k : Nat) : Prop := 1 < len → 2 ≤ k ∧ k ≤ len ∧ (fan - 1) ∣ (len - k) ∧ k ≤ fan
theorem mkD_next {fan len k : Nat} (hf : 2 ≤ fan) (h : mkD fan len k) (hl : 1 < len) : mkD fan (len - k + 1) fan := by
  obtain ⟨h1, h2, h3, -⟩ := h hl
  intro h4
  have h5 : fan - 1 ≤ len - k := Nat.le_of_dvd (by omega) h3
  refine ⟨hf, by omega, ?_, Nat.le_refl _⟩
  rw [show len - k + 1 - fan = (len - k) - (fan - 1) by omega]
  exact Nat.dvd_sub h3 (Nat.dvd_refl _)
theorem mkK_D {fan len : Nat} (hf : 2 ≤ fan) : mkD fan len (mkK len fan) := by
  intro h
  have e : mkK len fan = (len - 2) % (fan - 1) + 2 := by
    unfold mkK
    have h1 : (if (fan : Int) - 1 ≤ 1 then (1 : Int) else (fan : Int) - 1) = ((fan - 1 : Nat) : Int) := by
      by_cases q : (fan : Int) - 1 ≤ 1 <;> simp [q] <;> omega
    rw [h1, show (len : Int) - 2 = ((len - 2 : Nat) : Int) by omega]
    omega
  have h2 := Nat.mod_le (len - 2) (fan - 1)
  have h3 := Nat.mod_lt (len - 2) (show 0 < fan - 1 by omega)
  rw [e]
  refine ⟨by omega, by omega, ?_, by omega⟩
  rw [show len - ((len - 2) % (fan - 1) + 2) = (len - 2) - (len - 2) % (fan - 1) by omega]
  exact Nat.dvd_sub_mod _
theorem mkK_i {fan len : Nat} (hf : 2 ≤ fan) : ((mkK len fan : Nat) : Int) = (((len : Int) - 2) % (if (fan : Int) - 1 ≤ 1 then 1 else (fan : Int) - 1)) + 2 := by
  unfold mkK
  have h0 : 0 ≤ ((len : Int) - 2) % (if (fan : Int) - 1 ≤ 1 then 1 else (fan : Int) - 1) := Int.emod_nonneg _ (by by_cases q : (fan : Int) - 1 ≤ 1 <;> simp [q] <;> omega)
  omega
def bI (b : Bool) : Int := if b then 1 else 0
theorem bI_in (b : Bool) : bI b = 0 ∨ bI b = 1 := by cases b <;> simp [bI]
theorem mlC_len2 (pg : Int) (c : List Int) (z : zZ) : (mlC pg c z).2.2.2.2.length ≤ z.2.2.2.2.length + (if 1 < c.length then 1 else 0) := by
  unfold mlC
  by_cases h : 1 < c.length <;> simp [h]
theorem mlS_keep2 (pg : Int) (fan : Nat) (hf : 1 ≤ fan) : ∀ (f : Nat) (L : List Int) (z : zZ), L.length ≤ f →
    (mlS pg fan f L z).2.2.2.2.length + (mlS pg fan f L z).1.length ≤ z.2.2.2.2.length + z.1.length + L.length
  | 0, L, z, h1 => by
    have : L = [] := List.length_eq_zero_iff.mp (by omega)
    subst this
    simp [mlS]
  | f + 1, L, z, h1 => by
    by_cases h0 : L.length = 0
    · have : L = [] := List.length_eq_zero_iff.mp h0
      subst this
      simp [mlS]
    · rw [mlS_cons (by omega)]
      have i4 := mlS_keep2 pg fan hf f (L.drop fan) (mlC pg (L.take fan) z) (by rw [List.length_drop]; omega)
      have hl : (mlC pg (L.take fan) z).1.length = z.1.length + 1 := by rw [mlC_row]; simp
      have hd : (L.drop fan).length = L.length - fan := List.length_drop
      have ht : (L.take fan).length = min fan L.length := List.length_take
      have hm := mlC_len2 pg (L.take fan) z
      by_cases q : 1 < (L.take fan).length
      · rw [if_pos q] at hm; omega
      · rw [if_neg q] at hm; omega
