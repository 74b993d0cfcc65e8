/-! from what the constructor makes to the table of the world -/
def msOrdL : List Nat := [61, 62, 63, 64, 65, 66, 67, 68, 69, 70, 71, 72, 73, 74, 75, 76, 77, 78, 79, 80, 81, 82, 83, 84, 85, 86, 87, 88, 89, 90, 91, 92, 93, 94, 95, 96, 32, 33, 34, 41, 42, 43, 47, 48, 49, 53, 54, 55, 44, 45, 46, 50, 51, 52, 56, 57, 58, 38, 39, 40, 3, 4, 5, 6, 7, 8, 9, 10, 14, 15, 16, 17, 18, 19, 20, 21, 11, 12, 22, 23, 24, 25, 2, 13, 26, 27, 28, 29, 30, 31, 35, 36, 37, 59, 60, 0, 1]
def msAt (a : Nat) (as : Nat → Nat) : Nat → Nat
  | 0 => a
  | k + 1 => as k
def msAd (a : Nat) (as : Nat → Nat) (o : Nat) : Nat := msAt a as (msOrdL.getD o 0)
def zM0 : zM := fun o k => if o = 95 then (if k = 2 then 4 else if k = 3 then 4 else 0) else if o = 82 then (if k = 7 then 4 else 0) else if o = 83 then (if k = 7 then 4 else 0) else if o = 90 then (if k = 0 then 4 else if k = 1 then 4 else 0) else if o = 85 then -1 else 0
theorem zM0_lw : lw0 zM0 := ⟨rfl, rfl, rfl, rfl, rfl, rfl, rfl, rfl⟩
theorem msOrd_inj : ∀ i, i < 97 → ∀ j, j < 97 → msOrdL.getD i 0 = msOrdL.getD j 0 → i = j := by decide +kernel
abbrev msCell (C : ClassId × ClassId × ClassId) (a : Nat) (as : Nat → Nat) (o : Nat) : Prop := (oMs C a as)[msOrdL.getD o 0]? = some (msAd a as o, z_e (msAd a as) C.1 C.2.1 C.2.2 o (zM0 o))
theorem ms_c0 (C : ClassId × ClassId × ClassId) (a : Nat) (as : Nat → Nat) : msCell C a as 0 := rfl
theorem ms_c1 (C : ClassId × ClassId × ClassId) (a : Nat) (as : Nat → Nat) : msCell C a as 1 := rfl
theorem ms_c2 (C : ClassId × ClassId × ClassId) (a : Nat) (as : Nat → Nat) : msCell C a as 2 := rfl
theorem ms_c3 (C : ClassId × ClassId × ClassId) (a : Nat) (as : Nat → Nat) : msCell C a as 3 := rfl
theorem ms_c4 (C : ClassId × ClassId × ClassId) (a : Nat) (as : Nat → Nat) : msCell C a as 4 := rfl
theorem ms_c5 (C : ClassId × ClassId × ClassId) (a : Nat) (as : Nat → Nat) : msCell C a as 5 := rfl
theorem ms_c6 (C : ClassId × ClassId × ClassId) (a : Nat) (as : Nat → Nat) : msCell C a as 6 := rfl
theorem ms_c7 (C : ClassId × ClassId × ClassId) (a : Nat) (as : Nat → Nat) : msCell C a as 7 := rfl
theorem ms_c8 (C : ClassId × ClassId × ClassId) (a : Nat) (as : Nat → Nat) : msCell C a as 8 := rfl
theorem ms_c9 (C : ClassId × ClassId × ClassId) (a : Nat) (as : Nat → Nat) : msCell C a as 9 := rfl
theorem ms_c10 (C : ClassId × ClassId × ClassId) (a : Nat) (as : Nat → Nat) : msCell C a as 10 := rfl
theorem ms_c11 (C : ClassId × ClassId × ClassId) (a : Nat) (as : Nat → Nat) : msCell C a as 11 := rfl
theorem ms_c12 (C : ClassId × ClassId × ClassId) (a : Nat) (as : Nat → Nat) : msCell C a as 12 := rfl
theorem ms_c13 (C : ClassId × ClassId × ClassId) (a : Nat) (as : Nat → Nat) : msCell C a as 13 := rfl
theorem ms_c14 (C : ClassId × ClassId × ClassId) (a : Nat) (as : Nat → Nat) : msCell C a as 14 := rfl
theorem ms_c15 (C : ClassId × ClassId × ClassId) (a : Nat) (as : Nat → Nat) : msCell C a as 15 := rfl
theorem ms_c16 (C : ClassId × ClassId × ClassId) (a : Nat) (as : Nat → Nat) : msCell C a as 16 := rfl
theorem ms_c17 (C : ClassId × ClassId × ClassId) (a : Nat) (as : Nat → Nat) : msCell C a as 17 := rfl
theorem ms_c18 (C : ClassId × ClassId × ClassId) (a : Nat) (as : Nat → Nat) : msCell C a as 18 := rfl
theorem ms_c19 (C : ClassId × ClassId × ClassId) (a : Nat) (as : Nat → Nat) : msCell C a as 19 := rfl
theorem ms_c20 (C : ClassId × ClassId × ClassId) (a : Nat) (as : Nat → Nat) : msCell C a as 20 := rfl
theorem ms_c21 (C : ClassId × ClassId × ClassId) (a : Nat) (as : Nat → Nat) : msCell C a as 21 := rfl
theorem ms_c22 (C : ClassId × ClassId × ClassId) (a : Nat) (as : Nat → Nat) : msCell C a as 22 := rfl
theorem ms_c23 (C : ClassId × ClassId × ClassId) (a : Nat) (as : Nat → Nat) : msCell C a as 23 := rfl
theorem ms_c24 (C : ClassId × ClassId × ClassId) (a : Nat) (as : Nat → Nat) : msCell C a as 24 := rfl
theorem ms_c25 (C : ClassId × ClassId × ClassId) (a : Nat) (as : Nat → Nat) : msCell C a as 25 := rfl
theorem ms_c26 (C : ClassId × ClassId × ClassId) (a : Nat) (as : Nat → Nat) : msCell C a as 26 := rfl
theorem ms_c27 (C : ClassId × ClassId × ClassId) (a : Nat) (as : Nat → Nat) : msCell C a as 27 := rfl
theorem ms_c28 (C : ClassId × ClassId × ClassId) (a : Nat) (as : Nat → Nat) : msCell C a as 28 := rfl
theorem ms_c29 (C : ClassId × ClassId × ClassId) (a : Nat) (as : Nat → Nat) : msCell C a as 29 := rfl
theorem ms_c30 (C : ClassId × ClassId × ClassId) (a : Nat) (as : Nat → Nat) : msCell C a as 30 := rfl
theorem ms_c31 (C : ClassId × ClassId × ClassId) (a : Nat) (as : Nat → Nat) : msCell C a as 31 := rfl
theorem ms_c32 (C : ClassId × ClassId × ClassId) (a : Nat) (as : Nat → Nat) : msCell C a as 32 := rfl
theorem ms_c33 (C : ClassId × ClassId × ClassId) (a : Nat) (as : Nat → Nat) : msCell C a as 33 := rfl
theorem ms_c34 (C : ClassId × ClassId × ClassId) (a : Nat) (as : Nat → Nat) : msCell C a as 34 := rfl
theorem ms_c35 (C : ClassId × ClassId × ClassId) (a : Nat) (as : Nat → Nat) : msCell C a as 35 := rfl
theorem ms_c36 (C : ClassId × ClassId × ClassId) (a : Nat) (as : Nat → Nat) : msCell C a as 36 := rfl
theorem ms_c37 (C : ClassId × ClassId × ClassId) (a : Nat) (as : Nat → Nat) : msCell C a as 37 := rfl
theorem ms_c38 (C : ClassId × ClassId × ClassId) (a : Nat) (as : Nat → Nat) : msCell C a as 38 := rfl
theorem ms_c39 (C : ClassId × ClassId × ClassId) (a : Nat) (as : Nat → Nat) : msCell C a as 39 := rfl
theorem ms_c40 (C : ClassId × ClassId × ClassId) (a : Nat) (as : Nat → Nat) : msCell C a as 40 := rfl
theorem ms_c41 (C : ClassId × ClassId × ClassId) (a : Nat) (as : Nat → Nat) : msCell C a as 41 := rfl
theorem ms_c42 (C : ClassId × ClassId × ClassId) (a : Nat) (as : Nat → Nat) : msCell C a as 42 := rfl
theorem ms_c43 (C : ClassId × ClassId × ClassId) (a : Nat) (as : Nat → Nat) : msCell C a as 43 := rfl
theorem ms_c44 (C : ClassId × ClassId × ClassId) (a : Nat) (as : Nat → Nat) : msCell C a as 44 := rfl
theorem ms_c45 (C : ClassId × ClassId × ClassId) (a : Nat) (as : Nat → Nat) : msCell C a as 45 := rfl
theorem ms_c46 (C : ClassId × ClassId × ClassId) (a : Nat) (as : Nat → Nat) : msCell C a as 46 := rfl
theorem ms_c47 (C : ClassId × ClassId × ClassId) (a : Nat) (as : Nat → Nat) : msCell C a as 47 := rfl
theorem ms_c48 (C : ClassId × ClassId × ClassId) (a : Nat) (as : Nat → Nat) : msCell C a as 48 := rfl
theorem ms_c49 (C : ClassId × ClassId × ClassId) (a : Nat) (as : Nat → Nat) : msCell C a as 49 := rfl
theorem ms_c50 (C : ClassId × ClassId × ClassId) (a : Nat) (as : Nat → Nat) : msCell C a as 50 := rfl
theorem ms_c51 (C : ClassId × ClassId × ClassId) (a : Nat) (as : Nat → Nat) : msCell C a as 51 := rfl
theorem ms_c52 (C : ClassId × ClassId × ClassId) (a : Nat) (as : Nat → Nat) : msCell C a as 52 := rfl
theorem ms_c53 (C : ClassId × ClassId × ClassId) (a : Nat) (as : Nat → Nat) : msCell C a as 53 := rfl
theorem ms_c54 (C : ClassId × ClassId × ClassId) (a : Nat) (as : Nat → Nat) : msCell C a as 54 := rfl
theorem ms_c55 (C : ClassId × ClassId × ClassId) (a : Nat) (as : Nat → Nat) : msCell C a as 55 := rfl
theorem ms_c56 (C : ClassId × ClassId × ClassId) (a : Nat) (as : Nat → Nat) : msCell C a as 56 := rfl
theorem ms_c57 (C : ClassId × ClassId × ClassId) (a : Nat) (as : Nat → Nat) : msCell C a as 57 := rfl
theorem ms_c58 (C : ClassId × ClassId × ClassId) (a : Nat) (as : Nat → Nat) : msCell C a as 58 := rfl
theorem ms_c59 (C : ClassId × ClassId × ClassId) (a : Nat) (as : Nat → Nat) : msCell C a as 59 := rfl
theorem ms_c60 (C : ClassId × ClassId × ClassId) (a : Nat) (as : Nat → Nat) : msCell C a as 60 := rfl
theorem ms_c61 (C : ClassId × ClassId × ClassId) (a : Nat) (as : Nat → Nat) : msCell C a as 61 := rfl
theorem ms_c62 (C : ClassId × ClassId × ClassId) (a : Nat) (as : Nat → Nat) : msCell C a as 62 := rfl
theorem ms_c63 (C : ClassId × ClassId × ClassId) (a : Nat) (as : Nat → Nat) : msCell C a as 63 := rfl
theorem ms_c64 (C : ClassId × ClassId × ClassId) (a : Nat) (as : Nat → Nat) : msCell C a as 64 := rfl
theorem ms_c65 (C : ClassId × ClassId × ClassId) (a : Nat) (as : Nat → Nat) : msCell C a as 65 := rfl
theorem ms_c66 (C : ClassId × ClassId × ClassId) (a : Nat) (as : Nat → Nat) : msCell C a as 66 := rfl
theorem ms_c67 (C : ClassId × ClassId × ClassId) (a : Nat) (as : Nat → Nat) : msCell C a as 67 := rfl
theorem ms_c68 (C : ClassId × ClassId × ClassId) (a : Nat) (as : Nat → Nat) : msCell C a as 68 := rfl
theorem ms_c69 (C : ClassId × ClassId × ClassId) (a : Nat) (as : Nat → Nat) : msCell C a as 69 := rfl
theorem ms_c70 (C : ClassId × ClassId × ClassId) (a : Nat) (as : Nat → Nat) : msCell C a as 70 := rfl
theorem ms_c71 (C : ClassId × ClassId × ClassId) (a : Nat) (as : Nat → Nat) : msCell C a as 71 := rfl
theorem ms_c72 (C : ClassId × ClassId × ClassId) (a : Nat) (as : Nat → Nat) : msCell C a as 72 := rfl
theorem ms_c73 (C : ClassId × ClassId × ClassId) (a : Nat) (as : Nat → Nat) : msCell C a as 73 := rfl
theorem ms_c74 (C : ClassId × ClassId × ClassId) (a : Nat) (as : Nat → Nat) : msCell C a as 74 := rfl
theorem ms_c75 (C : ClassId × ClassId × ClassId) (a : Nat) (as : Nat → Nat) : msCell C a as 75 := rfl
theorem ms_c76 (C : ClassId × ClassId × ClassId) (a : Nat) (as : Nat → Nat) : msCell C a as 76 := rfl
theorem ms_c77 (C : ClassId × ClassId × ClassId) (a : Nat) (as : Nat → Nat) : msCell C a as 77 := rfl
theorem ms_c78 (C : ClassId × ClassId × ClassId) (a : Nat) (as : Nat → Nat) : msCell C a as 78 := rfl
theorem ms_c79 (C : ClassId × ClassId × ClassId) (a : Nat) (as : Nat → Nat) : msCell C a as 79 := rfl
theorem ms_c80 (C : ClassId × ClassId × ClassId) (a : Nat) (as : Nat → Nat) : msCell C a as 80 := rfl
theorem ms_c81 (C : ClassId × ClassId × ClassId) (a : Nat) (as : Nat → Nat) : msCell C a as 81 := rfl
theorem ms_c82 (C : ClassId × ClassId × ClassId) (a : Nat) (as : Nat → Nat) : msCell C a as 82 := rfl
theorem ms_c83 (C : ClassId × ClassId × ClassId) (a : Nat) (as : Nat → Nat) : msCell C a as 83 := rfl
theorem ms_c84 (C : ClassId × ClassId × ClassId) (a : Nat) (as : Nat → Nat) : msCell C a as 84 := rfl
theorem ms_c85 (C : ClassId × ClassId × ClassId) (a : Nat) (as : Nat → Nat) : msCell C a as 85 := rfl
theorem ms_c86 (C : ClassId × ClassId × ClassId) (a : Nat) (as : Nat → Nat) : msCell C a as 86 := rfl
theorem ms_c87 (C : ClassId × ClassId × ClassId) (a : Nat) (as : Nat → Nat) : msCell C a as 87 := rfl
theorem ms_c88 (C : ClassId × ClassId × ClassId) (a : Nat) (as : Nat → Nat) : msCell C a as 88 := rfl
theorem ms_c89 (C : ClassId × ClassId × ClassId) (a : Nat) (as : Nat → Nat) : msCell C a as 89 := rfl
theorem ms_c90 (C : ClassId × ClassId × ClassId) (a : Nat) (as : Nat → Nat) : msCell C a as 90 := rfl
theorem ms_c93 (C : ClassId × ClassId × ClassId) (a : Nat) (as : Nat → Nat) : msCell C a as 93 := rfl
theorem ms_c94 (C : ClassId × ClassId × ClassId) (a : Nat) (as : Nat → Nat) : msCell C a as 94 := rfl
theorem ms_c95 (C : ClassId × ClassId × ClassId) (a : Nat) (as : Nat → Nat) : msCell C a as 95 := rfl
theorem ms_c91 (C : ClassId × ClassId × ClassId) (a : Nat) (as : Nat → Nat) : (oMs C a as)[36]? = some (msAd a as 91, .inl (C.2.2, 3, .inr (.inr (.inr (.inr (va_up (va_up (va_up (fun _ => none) 0 (some (msAd a as 39))) 1 (some (msAd a as 42))) 2 (some (msAd a as 45)))))))) := rfl
theorem ms_c92 (C : ClassId × ClassId × ClassId) (a : Nat) (as : Nat → Nat) : (oMs C a as)[37]? = some (msAd a as 92, .inl (C.2.2, 3, .inr (.inr (.inr (.inr (va_up (va_up (va_up (fun _ => none) 0 (some (msAd a as 48))) 1 (some (msAd a as 51))) 2 (some (msAd a as 54)))))))) := rfl
theorem ms_c96 (C : ClassId × ClassId × ClassId) (a : Nat) (as : Nat → Nat) : (oMs C a as)[1]? = some (msAd a as 96, .inl (C.2.2, 12, .inr (.inr (.inr (.inr (msF (fun i => as (60 + 3 * i)) 12)))))) := rfl
theorem ms_cells (C : ClassId × ClassId × ClassId) (a : Nat) (as : Nat → Nat) (o : Nat) (h : o < 97) (hn : ¬ (o = 91 ∨ o = 92 ∨ o = 96)) : msCell C a as o := match o, h, hn with
  | 0, _, _ => ms_c0 C a as
  | 1, _, _ => ms_c1 C a as
  | 2, _, _ => ms_c2 C a as
  | 3, _, _ => ms_c3 C a as
  | 4, _, _ => ms_c4 C a as
  | 5, _, _ => ms_c5 C a as
  | 6, _, _ => ms_c6 C a as
  | 7, _, _ => ms_c7 C a as
  | 8, _, _ => ms_c8 C a as
  | 9, _, _ => ms_c9 C a as
  | 10, _, _ => ms_c10 C a as
  | 11, _, _ => ms_c11 C a as
  | 12, _, _ => ms_c12 C a as
  | 13, _, _ => ms_c13 C a as
  | 14, _, _ => ms_c14 C a as
  | 15, _, _ => ms_c15 C a as
  | 16, _, _ => ms_c16 C a as
  | 17, _, _ => ms_c17 C a as
  | 18, _, _ => ms_c18 C a as
  | 19, _, _ => ms_c19 C a as
  | 20, _, _ => ms_c20 C a as
  | 21, _, _ => ms_c21 C a as
  | 22, _, _ => ms_c22 C a as
  | 23, _, _ => ms_c23 C a as
  | 24, _, _ => ms_c24 C a as
  | 25, _, _ => ms_c25 C a as
  | 26, _, _ => ms_c26 C a as
  | 27, _, _ => ms_c27 C a as
  | 28, _, _ => ms_c28 C a as
  | 29, _, _ => ms_c29 C a as
  | 30, _, _ => ms_c30 C a as
  | 31, _, _ => ms_c31 C a as
  | 32, _, _ => ms_c32 C a as
  | 33, _, _ => ms_c33 C a as
  | 34, _, _ => ms_c34 C a as
  | 35, _, _ => ms_c35 C a as
  | 36, _, _ => ms_c36 C a as
  | 37, _, _ => ms_c37 C a as
  | 38, _, _ => ms_c38 C a as
  | 39, _, _ => ms_c39 C a as
  | 40, _, _ => ms_c40 C a as
  | 41, _, _ => ms_c41 C a as
  | 42, _, _ => ms_c42 C a as
  | 43, _, _ => ms_c43 C a as
  | 44, _, _ => ms_c44 C a as
  | 45, _, _ => ms_c45 C a as
  | 46, _, _ => ms_c46 C a as
  | 47, _, _ => ms_c47 C a as
  | 48, _, _ => ms_c48 C a as
  | 49, _, _ => ms_c49 C a as
  | 50, _, _ => ms_c50 C a as
  | 51, _, _ => ms_c51 C a as
  | 52, _, _ => ms_c52 C a as
  | 53, _, _ => ms_c53 C a as
  | 54, _, _ => ms_c54 C a as
  | 55, _, _ => ms_c55 C a as
  | 56, _, _ => ms_c56 C a as
  | 57, _, _ => ms_c57 C a as
  | 58, _, _ => ms_c58 C a as
  | 59, _, _ => ms_c59 C a as
  | 60, _, _ => ms_c60 C a as
  | 61, _, _ => ms_c61 C a as
  | 62, _, _ => ms_c62 C a as
  | 63, _, _ => ms_c63 C a as
  | 64, _, _ => ms_c64 C a as
  | 65, _, _ => ms_c65 C a as
  | 66, _, _ => ms_c66 C a as
  | 67, _, _ => ms_c67 C a as
  | 68, _, _ => ms_c68 C a as
  | 69, _, _ => ms_c69 C a as
  | 70, _, _ => ms_c70 C a as
  | 71, _, _ => ms_c71 C a as
  | 72, _, _ => ms_c72 C a as
  | 73, _, _ => ms_c73 C a as
  | 74, _, _ => ms_c74 C a as
  | 75, _, _ => ms_c75 C a as
  | 76, _, _ => ms_c76 C a as
  | 77, _, _ => ms_c77 C a as
  | 78, _, _ => ms_c78 C a as
  | 79, _, _ => ms_c79 C a as
  | 80, _, _ => ms_c80 C a as
  | 81, _, _ => ms_c81 C a as
  | 82, _, _ => ms_c82 C a as
  | 83, _, _ => ms_c83 C a as
  | 84, _, _ => ms_c84 C a as
  | 85, _, _ => ms_c85 C a as
  | 86, _, _ => ms_c86 C a as
  | 87, _, _ => ms_c87 C a as
  | 88, _, _ => ms_c88 C a as
  | 89, _, _ => ms_c89 C a as
  | 90, _, _ => ms_c90 C a as
  | 91, _, hn => absurd (by decide) hn
  | 92, _, hn => absurd (by decide) hn
  | 93, _, _ => ms_c93 C a as
  | 94, _, _ => ms_c94 C a as
  | 95, _, _ => ms_c95 C a as
  | 96, _, hn => absurd (by decide) hn
  | n + 97, h, _ => absurd h (by omega)
theorem ms_some (C : ClassId × ClassId × ClassId) (a : Nat) (as : Nat → Nat) (o : Nat) (h : o < 97) : ∃ e : va_E, (oMs C a as)[msOrdL.getD o 0]? = some (msAd a as o, e) := by
  by_cases hn : o = 91 ∨ o = 92 ∨ o = 96
  · rcases hn with rfl | rfl | rfl
    · exact ⟨_, ms_c91 C a as⟩
    · exact ⟨_, ms_c92 C a as⟩
    · exact ⟨_, ms_c96 C a as⟩
  · exact ⟨_, ms_cells C a as o h hn⟩
theorem zw_lt {ad : Nat → Nat} {cI cJ cO : ClassId} {M : zM} {k : Nat} {q : Nat × va_E} (h : (z_w ad cI cJ cO M)[k]? = some q) : k < 97 ∧ q = (ad k, z_e ad cI cJ cO k (M k)) := by
  by_cases hk : k < 97
  · rw [zw_at hk] at h
    exact ⟨hk, (Option.some.inj h).symm⟩
  · rw [zw_out hk] at h; cases h
theorem ms_dist {A : Nat → Prop} {C : ClassId × ClassId × ClassId} {a : Nat} {as : Nat → Nat} (h : va_D A (oMs C a as)) (cI cJ cO : ClassId) (M : zM) : va_D A (z_w (msAd a as) cI cJ cO M) := by
  refine ⟨fun i j p q hi hj e => ?_, fun k q hk => ?_⟩
  · obtain ⟨li, rfl⟩ := zw_lt hi
    obtain ⟨lj, rfl⟩ := zw_lt hj
    obtain ⟨ei, hi'⟩ := ms_some C a as i li
    obtain ⟨ej, hj'⟩ := ms_some C a as j lj
    exact msOrd_inj i li j lj (h.1 _ _ _ _ hi' hj' e)
  · obtain ⟨lk, rfl⟩ := zw_lt hk
    obtain ⟨ek, hk'⟩ := ms_some C a as k lk
    exact h.2 _ _ hk'
theorem vp_cell_ext {cA : ClassId} {N : Nat} {f g : Nat → Option Nat} (h : ∀ j, j < N → f j = g j) : vp_cell cA (N, .inr (.inr (.inr (.inr f)))) = vp_cell cA (N, .inr (.inr (.inr (.inr g)))) := by
  rw [vp_cell_q, vp_cell_q]
  unfold arrV
  have e : (Array.ofFn (n := N) fun j => va_rf (f j.val)) = Array.ofFn (n := N) fun j => va_rf (g j.val) := congrArg Array.ofFn (funext fun j => by rw [h j.val j.isLt])
  rw [e]
theorem ms_world {D : va_G} {cI cJ cO : ClassId} {a : Nat} {as : Nat → Nat} {H : Heap} (h : va_P D vwCl (oMs (cI, cJ, cO) a as) H) : va_P D vwCl (z_w (msAd a as) cI cJ cO zM0) H := by
  intro k q hq
  obtain ⟨hk, rfl⟩ := zw_lt hq
  by_cases hn : k = 91 ∨ k = 92 ∨ k = 96
  · rcases hn with rfl | rfl | rfl
    · have h1 : H[msAd a as 91]? = some (vp_cell cO (3, .inr (.inr (.inr (.inr (va_up (va_up (va_up (fun _ => none) 0 (some (msAd a as 39))) 1 (some (msAd a as 42))) 2 (some (msAd a as 45)))))))) := h _ _ (ms_c91 _ a as)
      show H[msAd a as 91]? = some (vp_cell cO (3, .inr (.inr (.inr (.inr (fun j => some (msAd a as (3 * (13 + j)))))))))
      rw [h1, vp_cell_ext]
      intro j hj
      match j, hj with
      | 0, _ => rfl
      | 1, _ => rfl
      | 2, _ => rfl
      | n + 3, hj => exact absurd hj (by omega)
    · have h1 : H[msAd a as 92]? = some (vp_cell cO (3, .inr (.inr (.inr (.inr (va_up (va_up (va_up (fun _ => none) 0 (some (msAd a as 48))) 1 (some (msAd a as 51))) 2 (some (msAd a as 54)))))))) := h _ _ (ms_c92 _ a as)
      show H[msAd a as 92]? = some (vp_cell cO (3, .inr (.inr (.inr (.inr (fun j => some (msAd a as (3 * (16 + j)))))))))
      rw [h1, vp_cell_ext]
      intro j hj
      match j, hj with
      | 0, _ => rfl
      | 1, _ => rfl
      | 2, _ => rfl
      | n + 3, hj => exact absurd hj (by omega)
    · have h1 : H[msAd a as 96]? = some (vp_cell cO (12, .inr (.inr (.inr (.inr (msF (fun i => as (60 + 3 * i)) 12)))))) := h _ _ (ms_c96 _ a as)
      show H[msAd a as 96]? = some (vp_cell cO (12, .inr (.inr (.inr (.inr (fun j => some (msAd a as (3 * j))))))))
      rw [h1, vp_cell_ext]
      intro j hj
      rw [msF_at _ 12 j hj]
      match j, hj with
      | 0, _ => rfl
      | 1, _ => rfl
      | 2, _ => rfl
      | 3, _ => rfl
      | 4, _ => rfl
      | 5, _ => rfl
      | 6, _ => rfl
      | 7, _ => rfl
      | 8, _ => rfl
      | 9, _ => rfl
      | 10, _ => rfl
      | 11, _ => rfl
      | n + 12, hj => exact absurd hj (by omega)
  · exact h _ _ (ms_cells _ a as k hk hn)
