/-! what the law asks of sorting: pure facts -/
theorem insS_perm (v : Int) : ∀ l : List Int, (insS v l).Perm (v :: l)
  | [] => List.Perm.refl _
  | a :: t => by
    rw [insS]
    by_cases h : v ≤ a
    · rw [if_pos h]
    · rw [if_neg h]
      exact ((insS_perm v t).cons a).trans (List.Perm.swap v a t)
theorem ini_perm (L : List (Int × Int)) : ∀ k, (ini L k).Perm ((List.range k).map (wt L))
  | 0 => List.Perm.refl _
  | k + 1 => by
    rw [ini, List.range_succ, List.map_append]
    refine (insS_perm _ _).trans (((ini_perm L k).cons _).trans ?_)
    exact (List.perm_append_singleton _ _).symm
theorem rcL_wt {L : List (Int × Int)} {i : Nat} (h : i < 120) : rcL L (wt L i) = (kA L i, mA L i) := by
  unfold rcL; rw [wt_mod h]
theorem srL_perm {L : List (Int × Int)} (hn : L.length ≤ 120) : (srL L).Perm L := by
  unfold srL
  refine ((ini_perm L L.length).map (rcL L)).trans (List.Perm.of_eq ?_)
  rw [List.map_map]
  refine List.ext_getElem (by simp) fun i h1 h2 => ?_
  simp only [List.length_map, List.length_range] at h1
  simp only [List.getElem_map, List.getElem_range, Function.comp]
  rw [rcL_wt (by omega), kA_get h1, mA_get h1]
theorem srL_in {L : List (Int × Int)} (hn : L.length ≤ 120) (hb : zIn L) : zIn (srL L) := fun p hp => hb p ((srL_perm hn).mem_iff.mp hp)
theorem srL_up {L : List (Int × Int)} (hn : L.length ≤ 120) : upB (srL L) = true := by
  rw [upB_iff]
  intro i hi
  rw [srL_len] at hi
  have hl := ini_len L L.length
  have e : ∀ j, j < L.length → ∃ a, a < 120 ∧ (ini L L.length)[j]? = some (wt L a) ∧ kA (srL L) j = kA L a := fun j hj => by
    obtain ⟨a, h1, h2⟩ := ini_mem (L := L) (k := L.length) (List.getElem_mem (l := ini L L.length) (n := j) (by omega))
    refine ⟨a, by omega, by rw [List.getElem?_eq_getElem (by omega), h2], ?_⟩
    rw [kA_get (by rw [srL_len]; exact hj)]
    simp only [srL, List.getElem_map]
    rw [h2, rcL_wt (by omega)]
  obtain ⟨a, a1, a2, a3⟩ := e i (by omega)
  obtain ⟨b, b1, b2, b3⟩ := e (i + 1) hi
  have hs := (List.pairwise_iff_getElem.mp (ini_sorted L L.length)) i (i + 1) (by omega) (by omega) (by omega)
  rw [List.getElem?_eq_getElem (by omega)] at a2 b2
  rw [Option.some.inj a2, Option.some.inj b2] at hs
  rw [a3, b3]
  unfold wt at hs
  omega
theorem kc_perm {A B : List (Int × Int)} (h : A.Perm B) (k : Int) : kc A k = kc B k := h.countP_eq _
/-- how much the merges take away -/
def sg (l : List Int) : Int := (l.map (· - 1)).sum
theorem sg_app (a b : List Int) : sg (a ++ b) = sg a + sg b := by simp [sg]
theorem sg_one (v : Int) : sg [v] = v - 1 := by simp [sg]
def mgI (fan : Nat) (r n : Int) (z : zZ) : Prop := z.2.2.2.1.length = z.2.2.2.2.length ∧ (∀ v ∈ z.2.2.2.1, 2 ≤ v ∧ v ≤ (fan : Int)) ∧ (z.1.length : Int) + sg z.2.2.2.1 = r ∧ (∀ v ∈ z.1, 0 ≤ v) ∧ z.1.sum = n ∧ (z.1.length ≤ 1 → z.2.2.2.2 ≠ [] → z.2.2.2.2.getLast? = some n)
theorem lsS_mgI {pg : Int} {fan k : Nat} {r n : Int} {z : zZ} (h : mgI fan r n z) (hk : 2 ≤ k ∧ k ≤ z.1.length ∧ k ≤ fan) : mgI fan r n (lsS pg k z) := by
  obtain ⟨h1, h2, h3, h4, h5, h6⟩ := h
  obtain ⟨i1, i2, i3⟩ := lsS_keep (pg := pg) hk.2.1 h4
  refine ⟨?_, ?_, ?_, i1, i2.trans h5, ?_⟩
  · show (z.2.2.2.1 ++ [_]).length = (z.2.2.2.2 ++ [_]).length
    rw [List.length_append, List.length_append, h1]; rfl
  · intro v hv
    rcases List.mem_append.mp hv with q | q
    · exact h2 v q
    · rw [List.mem_singleton.mp q]; omega
  · rw [i3]
    show _ + sg (z.2.2.2.1 ++ [(k : Int)]) = r
    rw [sg_app, sg_one]; omega
  · intro hl _
    show (z.2.2.2.2 ++ [(tkS pg k (z.1, z.2.1, 0)).2.2]).getLast? = some n
    rw [List.getLast?_concat]
    have e : (tkS pg k (z.1, z.2.1, 0)).1 = [] := by
      have : ((tkS pg k (z.1, z.2.1, 0)).1 ++ [(tkS pg k (z.1, z.2.1, 0)).2.2]).length ≤ 1 := hl
      rw [List.length_append] at this
      exact List.length_eq_zero_iff.mp (by simp at this; simpa using this)
    have : ((tkS pg k (z.1, z.2.1, 0)).1 ++ [(tkS pg k (z.1, z.2.1, 0)).2.2]).sum = n := i2.trans h5
    rw [e] at this
    simp at this
    rw [this]
theorem leS_mgI {pg : Int} {fan : Nat} {r n : Int} (hf : 2 ≤ fan) : ∀ (f k : Nat) (z : zZ), mkD fan z.1.length k → mgI fan r n z → z.1.length ≤ f + 1 → mgI fan r n (leS pg fan f k z) ∧ (leS pg fan f k z).1.length ≤ 1
  | 0, k, z, _, h, hl => ⟨h, by rw [leS]; omega⟩
  | f + 1, k, z, hd, h, hl => by
    rw [leS]
    by_cases q : z.1.length ≤ 1
    · rw [if_pos q]; exact ⟨h, q⟩
    · rw [if_neg q]
      obtain ⟨d1, d2, -, d4⟩ := hd (by omega)
      obtain ⟨-, -, i3⟩ := lsS_keep (pg := pg) d2 h.2.2.2.1
      exact leS_mgI hf f fan _ (by rw [i3]; exact mkD_next hf hd (by omega)) (lsS_mgI h ⟨d1, d2, d4⟩) (by rw [i3]; omega)
/-- a level's merges -/
theorem mlS_mg {pg : Int} {fan : Nat} {r : Int} (hf : 2 ≤ fan) : ∀ (f : Nat) (L : List Int) (z : zZ), L.length ≤ f → z.2.2.2.1.length = z.2.2.2.2.length → (∀ v ∈ z.2.2.2.1, 2 ≤ v ∧ v ≤ (fan : Int)) → (z.1.length : Int) + (L.length : Int) + sg z.2.2.2.1 = r →
    (mlS pg fan f L z).2.2.2.1.length = (mlS pg fan f L z).2.2.2.2.length ∧ (∀ v ∈ (mlS pg fan f L z).2.2.2.1, 2 ≤ v ∧ v ≤ (fan : Int)) ∧ ((mlS pg fan f L z).1.length : Int) + sg (mlS pg fan f L z).2.2.2.1 = r ∧ z.1.length + (if L.length = 0 then 0 else 1) ≤ (mlS pg fan f L z).1.length
  | 0, L, z, h1, h2, h3, h4 => by
    have : L = [] := List.length_eq_zero_iff.mp (by omega)
    subst this
    rw [mlS]
    exact ⟨h2, h3, by simpa using h4, by simp⟩
  | f + 1, L, z, h1, h2, h3, h4 => by
    by_cases h0 : L.length = 0
    · have : L = [] := List.length_eq_zero_iff.mp h0
      subst this
      rw [mlS_nil]
      exact ⟨h2, h3, by simpa using h4, by simp⟩
    · rw [mlS_cons (by omega)]
      have hl : (mlC pg (L.take fan) z).1.length = z.1.length + 1 := by rw [mlC_row]; simp
      have hd : (L.drop fan).length = L.length - fan := List.length_drop
      have ht : (L.take fan).length = min fan L.length := List.length_take
      have key : (mlC pg (L.take fan) z).2.2.2.1.length = (mlC pg (L.take fan) z).2.2.2.2.length ∧ (∀ v ∈ (mlC pg (L.take fan) z).2.2.2.1, 2 ≤ v ∧ v ≤ (fan : Int)) ∧ sg (mlC pg (L.take fan) z).2.2.2.1 = sg z.2.2.2.1 + ((min fan L.length : Nat) : Int) - 1 := by
        unfold mlC
        by_cases q : 1 < (L.take fan).length
        · rw [if_pos q]
          refine ⟨by simp [h2], ?_, ?_⟩
          · intro v hv
            rcases List.mem_append.mp hv with u | u
            · exact h3 v u
            · rw [List.mem_singleton.mp u]; omega
          · show sg (z.2.2.2.1 ++ [((L.take fan).length : Int)]) = _
            rw [sg_app, sg_one]; omega
        · rw [if_neg q]
          refine ⟨h2, h3, ?_⟩
          show sg z.2.2.2.1 = sg z.2.2.2.1 + ((min fan L.length : Nat) : Int) - 1
          omega
      obtain ⟨i1, i2, i3, i4⟩ := mlS_mg (r := r) hf f (L.drop fan) (mlC pg (L.take fan) z) (by rw [hd]; omega) key.1 key.2.1 (by rw [hl, hd, key.2.2]; omega)
      refine ⟨i1, i2, i3, ?_⟩
      rw [if_neg h0]
      omega
theorem mlS_fewer {pg : Int} {fan : Nat} (hf : 2 ≤ fan) : ∀ (f : Nat) (L : List Int) (z : zZ), L.length ≤ f → (mlS pg fan f L z).1.length ≤ z.1.length + L.length - (if 1 < L.length then 1 else 0)
  | 0, L, z, h1 => by
    have : L = [] := List.length_eq_zero_iff.mp (by omega)
    subst this
    simp [mlS]
  | f + 1, L, z, h1 => by
    by_cases h0 : L.length = 0
    · have : L = [] := List.length_eq_zero_iff.mp h0
      subst this
      rw [mlS_nil]; simp
    · rw [mlS_cons (by omega)]
      have hl : (mlC pg (L.take fan) z).1.length = z.1.length + 1 := by rw [mlC_row]; simp
      have hd : (L.drop fan).length = L.length - fan := List.length_drop
      have := mlS_fewer hf (pg := pg) f (L.drop fan) (mlC pg (L.take fan) z) (by rw [hd]; omega)
      rw [hl, hd] at this
      by_cases q : 1 < L.length
      · rw [if_pos q]
        by_cases u : 1 < L.length - fan
        · rw [if_pos u] at this; omega
        · rw [if_neg u] at this; omega
      · rw [if_neg q]
        rw [if_neg (by omega)] at this; omega
theorem lvS_mgI {pg : Int} {fan : Nat} {r n : Int} (hf : 2 ≤ fan) : ∀ (f : Nat) (z : zZ), mgI fan r n z → z.1.length ≤ f + 1 → mgI fan r n (lvS pg fan f z) ∧ (lvS pg fan f z).1.length ≤ 1
  | 0, z, h, hl => ⟨h, by rw [lvS]; omega⟩
  | f + 1, z, h, hl => by
    rw [lvS]
    by_cases q : z.1.length ≤ 1
    · rw [if_pos q]; exact ⟨h, q⟩
    · rw [if_neg q]
      obtain ⟨h1, h2, h3, h4, h5, h6⟩ := h
      have k1 := mlS_keep pg fan (by omega) z.1.length z.1 ([], z.2) (Nat.le_refl _) h4 (fun v hv => absurd hv List.not_mem_nil)
      have k2 := mlS_mg (pg := pg) (r := r) hf z.1.length z.1 ([], z.2) (Nat.le_refl _) h1 h2 (by simpa using h3)
      have k3 := mlS_fewer (pg := pg) hf z.1.length z.1 ([], z.2) (Nat.le_refl _)
      rw [if_pos (by omega)] at k3
      simp only [List.length_nil] at k3
      refine lvS_mgI hf f _ ⟨k2.1, k2.2.1, k2.2.2.1, k1.1, by rw [k1.2.1]; simpa using h5, fun hs hne => ?_⟩ (by omega)
      -- one chunk alone
      obtain ⟨L, hL⟩ : ∃ L, L = z.1 := ⟨_, rfl⟩
      rw [← hL] at hs hne q h5 ⊢
      obtain ⟨m, hm⟩ : ∃ m, L.length = m + 1 := ⟨L.length - 1, by omega⟩
      rw [hm] at hs hne ⊢
      rw [mlS_cons (by omega)] at hs hne ⊢
      have g := mlS_mg (pg := pg) (r := ((mlC pg (L.take fan) ([], z.2)).1.length : Int) + ((L.drop fan).length : Int) + sg (mlC pg (L.take fan) ([], z.2)).2.2.2.1) hf m (L.drop fan) (mlC pg (L.take fan) ([], z.2)) (by rw [List.length_drop]; omega)
      have hl1 : (mlC pg (L.take fan) ([], z.2)).1.length = 1 := by rw [mlC_row]; simp
      have hz : (L.drop fan).length = 0 := by
        have key : (mlC pg (L.take fan) ([], z.2)).2.2.2.1.length = (mlC pg (L.take fan) ([], z.2)).2.2.2.2.length ∧ (∀ v ∈ (mlC pg (L.take fan) ([], z.2)).2.2.2.1, 2 ≤ v ∧ v ≤ (fan : Int)) := by
          have ht : (L.take fan).length = min fan L.length := List.length_take
          unfold mlC
          rw [if_pos (by omega)]
          refine ⟨by simp [h1], ?_⟩
          intro v hv
          rcases List.mem_append.mp hv with u | u
          · exact h2 v u
          · rw [List.mem_singleton.mp u]; omega
        have := (g key.1 key.2 rfl).2.2.2
        rw [hl1] at this
        by_cases u : (L.drop fan).length = 0
        · exact u
        · rw [if_neg u] at this; omega
      have hz2 : L.drop fan = [] := List.length_eq_zero_iff.mp hz
      have ht : L.take fan = L := by
        have := List.take_append_drop fan L
        rw [hz2, List.append_nil] at this; exact this
      rw [hz2, mlS_nil, ht]
      unfold mlC
      rw [if_pos (by omega), List.getLast?_concat, h5]
theorem mkZ_ok {L : List (Int × Int)} {rep least : Bool} {pg mem : Nat} (hm : 3 ≤ mem ∧ mem ≤ 12) (hpg : 1 ≤ pg) (hb : zIn L) (hn : L.length ≤ 120) : mgI (mem - 1) ((mkR L rep (mem * pg)).length : Int) (L.length : Int) (mkZ L rep least pg mem) ∧ (mkZ L rep least pg mem).1.length ≤ 1 := by
  have hr := mkR_ok (L := L) (rep := rep) (room := mem * pg) (Nat.mul_pos (by omega) hpg) hb hn
  have hl := hr.len
  unfold mkZ
  have h0 : mgI (mem - 1) ((mkR L rep (mem * pg)).length : Int) (L.length : Int) (mkR L rep (mem * pg), pgs (L.length : Int) (pg : Int), sm ((mkR L rep (mem * pg)).map (fun a => pgs a (pg : Int))) 0 (mkR L rep (mem * pg)).length, [], []) :=
    ⟨rfl, fun v hv => absurd hv List.not_mem_nil, by simp [sg], fun v hv => by have := hr.pos v hv; omega, hr.1, fun _ h => absurd rfl h⟩
  cases least
  · exact lvS_mgI (by omega) 120 _ h0 (by show (mkR L rep (mem * pg)).length ≤ _; omega)
  · exact leS_mgI (by omega) 120 _ _ (mkK_D (by omega)) h0 (by show (mkR L rep (mem * pg)).length ≤ _; omega)
