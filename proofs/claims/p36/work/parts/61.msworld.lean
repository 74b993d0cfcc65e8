/-! the table of the world -/
theorem ms_some (C : ClassId × ClassId × ClassId) (a : Nat) (as : Nat → Nat) (o : Nat) (h : o < 97) : ∃ e : va_E, (oMs C a as)[msOrdL.getD o 0]? = some (msAd a as o, e) := by
  by_cases hn : o = 91 ∨ o = 92 ∨ o = 96
  · rcases hn with rfl | rfl | rfl
    · exact ⟨_, ms_c91 C a as⟩
    · exact ⟨_, ms_c92 C a as⟩
    · exact ⟨_, ms_c96 C a as⟩
  · exact ⟨_, ms_cells C a as o h hn⟩
theorem zw_lt {ad : Nat → Nat} {cI cJ cO : ClassId} {M : zM} {k : Nat} {q : Nat × va_E} (h : (z_w ad cI cJ cO M)[k]? = some q) : k < 97 ∧ q = (ad k, z_e ad cI cJ cO k (M k)) := by
  by_cases hk : k < 97
  · rw [zw_at hk] at h
    exact ⟨hk, (Option.some.inj h).symm⟩
  · rw [zw_out hk] at h; cases h
theorem ms_dist {A : Nat → Prop} {C : ClassId × ClassId × ClassId} {a : Nat} {as : Nat → Nat} (h : va_D A (oMs C a as)) (cI cJ cO : ClassId) (M : zM) : va_D A (z_w (msAd a as) cI cJ cO M) := by
  refine ⟨fun i j p q hi hj e => ?_, fun k q hk => ?_⟩
  · obtain ⟨li, rfl⟩ := zw_lt hi
    obtain ⟨lj, rfl⟩ := zw_lt hj
    obtain ⟨ei, hi'⟩ := ms_some C a as i li
    obtain ⟨ej, hj'⟩ := ms_some C a as j lj
    exact msOrd_inj i li j lj (h.1 _ _ _ _ hi' hj' e)
  · obtain ⟨lk, rfl⟩ := zw_lt hk
    obtain ⟨ek, hk'⟩ := ms_some C a as k lk
    exact h.2 _ (msAd a as k, ek) hk'
theorem vp_cell_ext {cA : ClassId} {N : Nat} {f g : Nat → Option Nat} (h : ∀ j, j < N → f j = g j) : vp_cell cA (N, .inr (.inr (.inr (.inr f)))) = vp_cell cA (N, .inr (.inr (.inr (.inr g)))) := by
  rw [vp_cell_q, vp_cell_q]
  unfold arrV
  have e : (Array.ofFn (n := N) fun j => va_rf (f j.val)) = Array.ofFn (n := N) fun j => va_rf (g j.val) := congrArg Array.ofFn (funext fun j => by rw [h j.val j.isLt])
  rw [e]
theorem ms_world {D : va_G} {cI cJ cO : ClassId} {a : Nat} {as : Nat → Nat} {H : Heap} (h : va_P D vwCl (oMs (cI, cJ, cO) a as) H) : va_P D vwCl (z_w (msAd a as) cI cJ cO zM0) H := by
  intro k q hq
  obtain ⟨hk, rfl⟩ := zw_lt hq
  by_cases hn : k = 91 ∨ k = 92 ∨ k = 96
  · rcases hn with rfl | rfl | rfl
    · have h1 : H[msAd a as 91]? = some (vp_cell cO (3, .inr (.inr (.inr (.inr (va_up (va_up (va_up (fun _ => none) 0 (some (msAd a as 39))) 1 (some (msAd a as 42))) 2 (some (msAd a as 45)))))))) := h _ _ (ms_c91 _ a as)
      show H[msAd a as 91]? = some (vp_cell cO (3, .inr (.inr (.inr (.inr (fun j => some (msAd a as (3 * (13 + j)))))))))
      rw [h1, vp_cell_ext]
      intro j hj
      match j, hj with
      | 0, _ => rfl
      | 1, _ => rfl
      | 2, _ => rfl
      | n + 3, hj => exact absurd hj (by omega)
    · have h1 : H[msAd a as 92]? = some (vp_cell cO (3, .inr (.inr (.inr (.inr (va_up (va_up (va_up (fun _ => none) 0 (some (msAd a as 48))) 1 (some (msAd a as 51))) 2 (some (msAd a as 54)))))))) := h _ _ (ms_c92 _ a as)
      show H[msAd a as 92]? = some (vp_cell cO (3, .inr (.inr (.inr (.inr (fun j => some (msAd a as (3 * (16 + j)))))))))
      rw [h1, vp_cell_ext]
      intro j hj
      match j, hj with
      | 0, _ => rfl
      | 1, _ => rfl
      | 2, _ => rfl
      | n + 3, hj => exact absurd hj (by omega)
    · have h1 : H[msAd a as 96]? = some (vp_cell cO (12, .inr (.inr (.inr (.inr (msF (fun i => as (60 + 3 * i)) 12)))))) := h _ _ (ms_c96 _ a as)
      show H[msAd a as 96]? = some (vp_cell cO (12, .inr (.inr (.inr (.inr (fun j => some (msAd a as (3 * j))))))))
      rw [h1, vp_cell_ext]
      intro j hj
      rw [msF_at _ 12 j hj]
      match j, hj with
      | 0, _ => rfl
      | 1, _ => rfl
      | 2, _ => rfl
      | 3, _ => rfl
      | 4, _ => rfl
      | 5, _ => rfl
      | 6, _ => rfl
      | 7, _ => rfl
      | 8, _ => rfl
      | 9, _ => rfl
      | 10, _ => rfl
      | 11, _ => rfl
      | n + 12, hj => exact absurd hj (by omega)
  · exact h _ _ (ms_cells _ a as k hk hn)
