/-! numbers of a sort's runs and merges, as the law asks for them -/
theorem sg_nn : ∀ {l : List Int}, (∀ v ∈ l, 2 ≤ v) → 0 ≤ sg l
  | [], _ => by simp [sg]
  | a :: t, h => by
    have h1 := h a List.mem_cons_self
    have h2 := sg_nn (l := t) (fun v hv => h v (List.mem_cons_of_mem _ hv))
    have : sg (a :: t) = (a - 1) + sg t := by simp [sg]
    omega
theorem sg_take {l : List Int} {k : Nat} (h : k < l.length) : sg (l.take (k + 1)) = sg (l.take k) + (nA l k - 1) := by
  rw [List.take_succ, List.getElem?_eq_getElem h, sg_app]
  show _ + sg [l[k]] = _
  rw [sg_one, nA_get h]
theorem nA_last {l : List Int} {v : Int} (h : l.getLast? = some v) : nA l (l.length - 1) = v := by
  rw [List.getLast?_eq_getElem?] at h
  unfold nA
  rw [List.getD_eq_getElem?_getD, h]; rfl
theorem mg_facts {fan n : Nat} {rs : List Int} {room : Int} {z : zZ} (h : mgI fan (rs.length : Int) (n : Int) z) (h1 : z.1.length ≤ 1) (hr : rsOK rs n room) :
    (n = 0 → (rs.length : Int) - sg z.2.2.2.1 = 0) ∧ (n ≠ 0 → (rs.length : Int) - sg z.2.2.2.1 = 1) ∧ (0 < z.2.2.2.2.length → nA z.2.2.2.2 (z.2.2.2.2.length - 1) = (n : Int)) := by
  obtain ⟨a1, a2, a3, a4, a5, a6⟩ := h
  have hs := sg_nn (l := z.2.2.2.1) (fun v hv => (a2 v hv).1)
  have hl := hr.len
  refine ⟨fun hn => by omega, fun hn => ?_, fun hp => nA_last (a6 h1 (fun q => by rw [q] at hp; exact absurd hp (by decide)))⟩
  have : z.1.length ≠ 0 := fun q => by
    rw [List.length_eq_zero_iff.mp q] at a5
    simp at a5; omega
  omega
theorem sm_room {L : List Int} {room : Int} (hr0 : 0 ≤ room) : ∀ k, (∀ i, i < k → room ≤ nA L i) → k ≤ L.length → (k : Int) * room ≤ sm L 0 k
  | 0, _, _ => by rw [sm_0]; simp
  | k + 1, h, hk => by
    rw [sm_1 (by omega) (by omega)]
    have := sm_room hr0 k (fun i hi => h i (by omega)) (by omega)
    have := h k (by omega)
    have e : ((k + 1 : Nat) : Int) * room = (k : Int) * room + room := by rw [Int.natCast_add, Int.add_mul]; simp
    omega
/-- no more runs than there must be -/
theorem runs_few {rs : List Int} {n : Nat} {room : Int} (h : rsOK rs n room) (hr : 1 ≤ room) : (rs.length : Int) ≤ ((n : Int) + room - 1) / room := by
  rw [Int.le_ediv_iff_mul_le (by omega)]
  by_cases e : rs.length = 0
  · rw [e]; simp; omega
  · obtain ⟨m, hm⟩ : ∃ m, rs.length = m + 1 := ⟨rs.length - 1, by omega⟩
    have h1 := sm_room (L := rs) (room := room) (by omega) m (fun i hi => (h.2 i (by omega)).2 (by omega)) (by omega)
    have h2 := (h.2 m (by omega)).1
    have h3 : sm rs 0 (m + 1) = (n : Int) := by rw [← hm, sm_all]; exact h.1
    rw [sm_1 (by omega) (by omega)] at h3
    rw [hm]
    have e2 : ((m + 1 : Nat) : Int) * room = (m : Int) * room + room := by rw [Int.natCast_add, Int.add_mul]; simp
    omega
