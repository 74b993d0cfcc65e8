/-! runs and merges as functions of lists -/
def zV (L : List Int) (n : Int) : Prop := (∀ v ∈ L, 0 ≤ v) ∧ L.sum = n
theorem sum_nn : ∀ {L : List Int}, (∀ v ∈ L, 0 ≤ v) → 0 ≤ L.sum
  | [], _ => by simp
  | a :: t, h => by
    have h1 := h a List.mem_cons_self
    have h2 := sum_nn (L := t) (fun v hv => h v (List.mem_cons_of_mem _ hv))
    rw [List.sum_cons]; omega
theorem sum_mem_le : ∀ {L : List Int} {v : Int}, (∀ w ∈ L, 0 ≤ w) → v ∈ L → v ≤ L.sum
  | a :: t, v, h, hv => by
    have h1 := h a List.mem_cons_self
    have h3 : ∀ w ∈ t, 0 ≤ w := fun w hw => h w (List.mem_cons_of_mem _ hw)
    have h2 := sum_nn h3
    rw [List.sum_cons]
    rcases List.mem_cons.mp hv with rfl | hv
    · omega
    · have := sum_mem_le h3 hv
      omega
theorem zV.at {L : List Int} {n : Int} (h : zV L n) (hn : 0 ≤ n) (i : Nat) : 0 ≤ nA L i ∧ nA L i ≤ n := by
  unfold nA
  by_cases hi : i < L.length
  · rw [show L.getD i 0 = L[i] by simp [List.getD, hi]]
    have := sum_mem_le h.1 (List.getElem_mem hi)
    rw [h.2] at this
    exact ⟨h.1 _ (List.getElem_mem hi), this⟩
  · rw [show L.getD i 0 = 0 by simp [List.getD, List.getElem?_eq_none (Nat.not_lt.mp hi)]]
    omega
/-- the sum of a stretch -/
def sm (L : List Int) (a b : Nat) : Int := ((L.drop a).take (b - a)).sum
theorem sm_0 {L : List Int} {a : Nat} : sm L a a = 0 := by simp [sm]
theorem sm_1 {L : List Int} {a b : Nat} (h1 : a ≤ b) (h2 : b < L.length) : sm L a (b + 1) = sm L a b + nA L b := by
  unfold sm
  rw [show b + 1 - a = (b - a) + 1 by omega, List.take_succ, List.getElem?_drop, show a + (b - a) = b by omega, List.getElem?_eq_getElem h2, nA_get h2]
  simp
theorem sum_app (A B : List Int) : (A ++ B).sum = A.sum + B.sum := by simp
theorem sm_in {L : List Int} {n : Int} (h : zV L n) (a b : Nat) : 0 ≤ sm L a b ∧ sm L a b ≤ n := by
  obtain ⟨h1, h2⟩ := h
  have e : L = L.take a ++ ((L.drop a).take (b - a) ++ (L.drop a).drop (b - a)) := by rw [List.take_append_drop, List.take_append_drop]
  have g1 : 0 ≤ (L.take a).sum := sum_nn fun v hv => h1 v (List.mem_of_mem_take hv)
  have g2 : 0 ≤ ((L.drop a).take (b - a)).sum := sum_nn fun v hv => h1 v (List.mem_of_mem_drop (List.mem_of_mem_take hv))
  have g3 : 0 ≤ ((L.drop a).drop (b - a)).sum := sum_nn fun v hv => h1 v (List.mem_of_mem_drop (List.mem_of_mem_drop hv))
  have g4 := congrArg List.sum e
  rw [sum_app, sum_app, h2] at g4
  unfold sm
  omega
abbrev zZ : Type := List Int × Int × Int × List Int × List Int
/-- a chunk of runs: one merge, if there is more than one -/
def mlC (pg : Int) (c : List Int) (z : zZ) : zZ :=
  if 1 < c.length then (z.1 ++ [c.sum], z.2.1 + sm (c.map (fun a => pgs a pg)) 0 c.length, z.2.2.1 + pgs c.sum pg, z.2.2.2.1 ++ [(c.length : Int)], z.2.2.2.2 ++ [c.sum])
  else (z.1 ++ [c.sum], z.2)
def mlS (pg : Int) (fan : Nat) : Nat → List Int → zZ → zZ
  | 0, _, z => z
  | f + 1, L, z => if L.length = 0 then z else mlS pg fan f (L.drop fan) (mlC pg (L.take fan) z)
theorem mlS_nil (pg : Int) (fan f : Nat) (z : zZ) : mlS pg fan f [] z = z := by
  cases f <;> simp [mlS]
theorem mlS_cons {pg : Int} {fan f : Nat} {L : List Int} {z : zZ} (h : 0 < L.length) : mlS pg fan (f + 1) L z = mlS pg fan f (L.drop fan) (mlC pg (L.take fan) z) := by
  rw [mlS, if_neg (by omega)]
def lvS (pg : Int) (fan : Nat) : Nat → zZ → zZ
  | 0, z => z
  | f + 1, z => if z.1.length ≤ 1 then z else lvS pg fan f (mlS pg fan z.1.length z.1 ([], z.2))
/-- the least ones taken -/
def tkS (pg : Int) : Nat → (List Int × Int × Int) → (List Int × Int × Int)
  | 0, w => w
  | k + 1, w => tkS pg k (w.1.eraseIdx (lpF w.1 w.1.length), w.2.1 + pgs (nA w.1 (lpF w.1 w.1.length)) pg, w.2.2 + nA w.1 (lpF w.1 w.1.length))
def lsS (pg : Int) (k : Nat) (z : zZ) : zZ :=
  ((tkS pg k (z.1, z.2.1, 0)).1 ++ [(tkS pg k (z.1, z.2.1, 0)).2.2], (tkS pg k (z.1, z.2.1, 0)).2.1, z.2.2.1 + pgs (tkS pg k (z.1, z.2.1, 0)).2.2 pg, z.2.2.2.1 ++ [(k : Int)], z.2.2.2.2 ++ [(tkS pg k (z.1, z.2.1, 0)).2.2])
def leS (pg : Int) (fan : Nat) : Nat → Nat → zZ → zZ
  | 0, _, z => z
  | f + 1, k, z => if z.1.length ≤ 1 then z else leS pg fan f fan (lsS pg k z)
/-- runs that are loaded -/
def rlS (step : Nat) : Nat → Nat → List Int → List Int
  | 0, _, acc => acc
  | f + 1, rem, acc => if rem = 0 then acc else rlS step f (rem - step) (acc ++ [((min step rem : Nat) : Int)])
/-- the weight of a record -/
def wt (L : List (Int × Int)) (i : Nat) : Int := (kA L i + 999) * 120 + (i : Int)
theorem wt_in {L : List (Int × Int)} {i : Nat} (h : zIn L) (hi : i < 120) : 0 ≤ wt L i ∧ wt L i < 239880 := by
  have := h.at i
  unfold wt
  omega
/-- the first k weights, sorted -/
def ini (L : List (Int × Int)) : Nat → List Int
  | 0 => []
  | k + 1 => insS (wt L k) (ini L k)
theorem ini_len (L : List (Int × Int)) : ∀ k, (ini L k).length = k
  | 0 => rfl
  | k + 1 => by rw [ini, insS_len, ini_len L k]
abbrev zR : Type := List Int × Int × Int × Nat × List Int
/-- one record given: what is held, the run, its size, how many are read, the runs that are ended -/
def rpT (L : List (Int × Int)) (s : zR) : zR := match s with
  | ([], run, size, filled, acc) => ([], run, size, filled, acc)
  | (a :: T, run, size, filled, acc) =>
    if run < a / 239880 then
      (if filled < L.length then (insS ((if wt L filled < a % 239880 then run + 1 + 1 else run + 1) * 239880 + wt L filled) T, run + 1, 0 + 1, filled + 1, acc ++ [size]) else (T, run + 1, 0 + 1, filled, acc ++ [size]))
    else
      (if filled < L.length then (insS ((if wt L filled < a % 239880 then run + 1 else run) * 239880 + wt L filled) T, run, size + 1, filled + 1, acc) else (T, run, size + 1, filled, acc))
def rpS (L : List (Int × Int)) : Nat → zR → List Int
  | 0, s => if 0 < s.2.2.1 then s.2.2.2.2 ++ [s.2.2.1] else s.2.2.2.2
  | k + 1, s => rpS L k (rpT L s)
def rpR (L : List (Int × Int)) (room : Nat) : List Int := rpS L L.length (ini L (min room L.length), 0, 0, min room L.length, [])
/-- the runs of a sort -/
def mkR (L : List (Int × Int)) (rep : Bool) (room : Nat) : List Int := if rep then rpR L room else rlS (max 1 room) L.length L.length []
def mkK (n fan : Nat) : Nat := ((((n : Int) - 2) % (if (fan : Int) - 1 ≤ 1 then 1 else (fan : Int) - 1)) + 2).toNat
/-- runs and merges of a sort, and their costs -/
def mkZ (L : List (Int × Int)) (rep least : Bool) (pg mem : Nat) : zZ :=
  let rs := mkR L rep (mem * pg)
  let z0 : zZ := (rs, pgs (L.length : Int) (pg : Int), sm (rs.map (fun a => pgs a (pg : Int))) 0 rs.length, [], [])
  if least then leS (pg : Int) (mem - 1) 120 (mkK rs.length (mem - 1)) z0 else lvS (pg : Int) (mem - 1) 120 z0
/-! their bounds -/
theorem sm_all {L : List Int} : sm L 0 L.length = L.sum := by simp [sm]
theorem mem_drop_take {L : List Int} {a : Nat} {v : Int} (h : v ∈ L.take a) : v ∈ L := List.mem_of_mem_take h
theorem mlC_row (pg : Int) (c : List Int) (z : zZ) : (mlC pg c z).1 = z.1 ++ [c.sum] := by
  unfold mlC; by_cases h : 1 < c.length <;> simp [h]
/-- what a level keeps: the sum; the new row is no longer than the old one -/
theorem mlS_keep (pg : Int) (fan : Nat) (hf : 1 ≤ fan) : ∀ (f : Nat) (L : List Int) (z : zZ), L.length ≤ f → (∀ v ∈ L, 0 ≤ v) → (∀ v ∈ z.1, 0 ≤ v) →
    (∀ v ∈ (mlS pg fan f L z).1, 0 ≤ v) ∧ (mlS pg fan f L z).1.sum = z.1.sum + L.sum ∧ (mlS pg fan f L z).1.length ≤ z.1.length + L.length ∧
    (mlS pg fan f L z).2.2.2.1.length + (mlS pg fan f L z).1.length ≤ z.2.2.2.1.length + z.1.length + L.length ∧ ((mlS pg fan f L z).2.2.2.1.length = (mlS pg fan f L z).2.2.2.2.length ↔ z.2.2.2.1.length = z.2.2.2.2.length)
  | 0, L, z, h1, h2, h3 => by
    have : L = [] := List.length_eq_zero_iff.mp (by omega)
    subst this
    simp [mlS]; exact h3
  | f + 1, L, z, h1, h2, h3 => by
    by_cases h0 : L.length = 0
    · have : L = [] := List.length_eq_zero_iff.mp h0
      subst this
      simp [mlS]; exact h3
    · rw [mlS_cons (by omega)]
      have hz : ∀ v ∈ (mlC pg (L.take fan) z).1, 0 ≤ v := by
        rw [mlC_row]
        intro v hv
        rcases List.mem_append.mp hv with q | q
        · exact h3 v q
        · rw [List.mem_singleton.mp q]; exact sum_nn fun w hw => h2 w (List.mem_of_mem_take hw)
      obtain ⟨i1, i2, i3, i4, i5⟩ := mlS_keep pg fan hf f (L.drop fan) (mlC pg (L.take fan) z) (by rw [List.length_drop]; omega) (fun v hv => h2 v (List.mem_of_mem_drop hv)) hz
      have hs : L.sum = (L.take fan).sum + (L.drop fan).sum := by rw [← sum_app, List.take_append_drop]
      have hl : (mlC pg (L.take fan) z).1.length = z.1.length + 1 := by rw [mlC_row]; simp
      have hd : (L.drop fan).length = L.length - fan := List.length_drop
      have ht : (L.take fan).length = min fan L.length := List.length_take
      have hm : (mlC pg (L.take fan) z).2.2.2.1.length + 1 + (L.length - fan) ≤ z.2.2.2.1.length + L.length := by
        unfold mlC
        by_cases q : 1 < (L.take fan).length
        · rw [if_pos q]; simp; omega
        · rw [if_neg q]; simp; omega
      have hb : (mlC pg (L.take fan) z).2.2.2.1.length = (mlC pg (L.take fan) z).2.2.2.2.length ↔ z.2.2.2.1.length = z.2.2.2.2.length := by
        unfold mlC
        by_cases q : 1 < (L.take fan).length
        · rw [if_pos q]; simp
        · rw [if_neg q]
      refine ⟨i1, ?_, by omega, by omega, i5.trans hb⟩
      rw [i2, mlC_row, sum_app, hs]; simp; omega
theorem erase_sum {L : List Int} : ∀ {q : Nat}, q < L.length → (L.eraseIdx q).sum + nA L q = L.sum := by
  induction L with
  | nil => intro q h; simp at h
  | cons a t ih =>
    intro q h
    cases q with
    | zero => simp [nA]; omega
    | succ q =>
      have := ih (q := q) (by simpa using h)
      simp [nA] at this ⊢
      omega
theorem mem_erase {L : List Int} {q : Nat} {v : Int} (h : v ∈ L.eraseIdx q) : v ∈ L := List.mem_of_mem_eraseIdx h
theorem tkS_keep (pg : Int) : ∀ (k : Nat) (w : List Int × Int × Int), k ≤ w.1.length → (∀ v ∈ w.1, 0 ≤ v) → 0 ≤ w.2.2 →
    (∀ v ∈ (tkS pg k w).1, 0 ≤ v) ∧ (tkS pg k w).1.sum + (tkS pg k w).2.2 = w.1.sum + w.2.2 ∧ (tkS pg k w).1.length = w.1.length - k ∧ 0 ≤ (tkS pg k w).2.2
  | 0, w, h1, h2, h3 => ⟨h2, rfl, rfl, h3⟩
  | k + 1, w, h1, h2, h3 => by
    have hq : lpF w.1 w.1.length < w.1.length := lpF_lt _ _ (by omega)
    have h4 : 0 ≤ nA w.1 (lpF w.1 w.1.length) := by rw [nA_get hq]; exact h2 _ (List.getElem_mem hq)
    have hl : (w.1.eraseIdx (lpF w.1 w.1.length)).length = w.1.length - 1 := List.length_eraseIdx_of_lt hq
    obtain ⟨i1, i2, i3, i4⟩ := tkS_keep pg k (w.1.eraseIdx (lpF w.1 w.1.length), w.2.1 + pgs (nA w.1 (lpF w.1 w.1.length)) pg, w.2.2 + nA w.1 (lpF w.1 w.1.length)) (by show k ≤ (w.1.eraseIdx _).length; omega) (fun v hv => h2 v (mem_erase hv)) (by show 0 ≤ w.2.2 + _; omega)
    have := erase_sum hq
    refine ⟨i1, ?_, ?_, i4⟩
    · rw [tkS, i2]; show (w.1.eraseIdx _).sum + (w.2.2 + _) = _; omega
    · rw [tkS, i3]; show (w.1.eraseIdx _).length - k = _; omega
/-- what a merge of the least keeps -/
theorem lsS_keep {pg : Int} {k : Nat} {z : zZ} (h1 : k ≤ z.1.length) (h2 : ∀ v ∈ z.1, 0 ≤ v) : (∀ v ∈ (lsS pg k z).1, 0 ≤ v) ∧ (lsS pg k z).1.sum = z.1.sum ∧ (lsS pg k z).1.length = z.1.length - k + 1 := by
  obtain ⟨i1, i2, i3, i4⟩ := tkS_keep pg k (z.1, z.2.1, 0) h1 h2 (Int.le_refl 0)
  refine ⟨fun v hv => ?_, ?_, ?_⟩
  · rcases List.mem_append.mp hv with q | q
    · exact i1 v q
    · rw [List.mem_singleton.mp q]; exact i4
  · show ((tkS pg k (z.1, z.2.1, 0)).1 ++ [_]).sum = _
    rw [sum_app]; simp at i2 ⊢; omega
  · show ((tkS pg k (z.1, z.2.1, 0)).1 ++ [_]).length = _
    rw [List.length_append, i3]; rfl
/-- runs of a sort: they have all records, each one has some, and all but the last as many as there is room for -/
def rsOK (rs : List Int) (n : Nat) (room : Int) : Prop := rs.sum = (n : Int) ∧ ∀ k, k < rs.length → 1 ≤ nA rs k ∧ (k + 1 < rs.length → room ≤ nA rs k)
theorem nA_mem {L : List Int} {k : Nat} (h : k < L.length) : nA L k ∈ L := by rw [nA_get h]; exact List.getElem_mem h
theorem rsOK_app {acc : List Int} {v : Int} {n : Nat} {room : Int} (hr : 1 ≤ room) (h : ∀ w ∈ acc, room ≤ w) (hv : 1 ≤ v) (hs : acc.sum + v = (n : Int)) : rsOK (acc ++ [v]) n room := by
  refine ⟨by rw [sum_app]; simpa using hs, fun k hk => ?_⟩
  simp at hk
  by_cases e : k < acc.length
  · rw [nA_app_l e]
    have := h _ (nA_mem e)
    exact ⟨by omega, fun _ => this⟩
  · have : k = acc.length := by omega
    subst this
    rw [nA_app_n]
    exact ⟨hv, fun q => by simp at q⟩
theorem rsOK_acc {acc : List Int} {n : Nat} {room : Int} (hr : 1 ≤ room) (h : ∀ w ∈ acc, room ≤ w) (hs : acc.sum = (n : Int)) : rsOK acc n room :=
  ⟨hs, fun k hk => by have := h _ (nA_mem hk); exact ⟨by omega, fun _ => this⟩⟩
theorem rsOK.pos {rs : List Int} {n : Nat} {room : Int} (h : rsOK rs n room) : ∀ v ∈ rs, 1 ≤ v := fun v hv => by
  obtain ⟨k, hk, e⟩ := List.getElem_of_mem hv
  rw [← e, ← nA_get hk]
  exact (h.2 k hk).1
theorem len_le_sum : ∀ {L : List Int}, (∀ v ∈ L, 1 ≤ v) → (L.length : Int) ≤ L.sum
  | [], _ => by simp
  | a :: t, h => by
    have h1 := h a List.mem_cons_self
    have h2 := len_le_sum (L := t) (fun v hv => h v (List.mem_cons_of_mem _ hv))
    rw [List.sum_cons, List.length_cons]; omega
theorem rsOK.len {rs : List Int} {n : Nat} {room : Int} (h : rsOK rs n room) : rs.length ≤ n := by
  have := len_le_sum h.pos
  rw [h.1] at this
  omega
theorem rsOK.zv {rs : List Int} {n : Nat} {room : Int} (h : rsOK rs n room) : zV rs (n : Int) := ⟨fun v hv => by have := h.pos v hv; omega, h.1⟩
theorem rlS_ok (step n : Nat) (hs : 1 ≤ step) : ∀ (f rem : Nat) (acc : List Int), rem ≤ f → (∀ v ∈ acc, (step : Int) ≤ v) → acc.sum + (rem : Int) = (n : Int) → rsOK (rlS step f rem acc) n step
  | 0, rem, acc, h1, h2, h3 => by
    have : rem = 0 := by omega
    subst this
    rw [rlS]
    exact rsOK_acc (by omega) h2 (by simpa using h3)
  | f + 1, rem, acc, h1, h2, h3 => by
    by_cases h0 : rem = 0
    · subst h0
      rw [rlS, if_pos rfl]
      exact rsOK_acc (by omega) h2 (by simpa using h3)
    · rw [rlS, if_neg h0]
      by_cases h4 : rem ≤ step
      · rw [show rem - step = 0 by omega, show min step rem = rem by omega]
        have e : rlS step f 0 (acc ++ [(rem : Int)]) = acc ++ [(rem : Int)] := by cases f <;> simp [rlS]
        rw [e]
        exact rsOK_app (by omega) h2 (by omega) h3
      · rw [show min step rem = step by omega]
        refine rlS_ok step n hs f (rem - step) _ (by omega) (fun v hv => ?_) (by rw [sum_app]; simp; omega)
        rcases List.mem_append.mp hv with q | q
        · exact h2 v q
        · rw [List.mem_singleton.mp q]; exact Int.le_refl _
theorem rlS_acc_len (step : Nat) (hs : 1 ≤ step) : ∀ (f rem : Nat) (acc : List Int), acc.length ≤ (rlS step f rem acc).length
  | 0, _, _ => Nat.le_refl _
  | f + 1, rem, acc => by
    rw [rlS]
    by_cases h0 : rem = 0
    · rw [if_pos h0]; exact Nat.le_refl _
    · rw [if_neg h0]
      have := rlS_acc_len step hs f (rem - step) (acc ++ [((min step rem : Nat) : Int)])
      rw [List.length_append] at this
      omega
/-- how many of the held ones are below b -/
def cur (b : Int) (S : List Int) : Nat := S.countP (fun w => decide (w < b))
theorem cur_cons (b a : Int) (S : List Int) : cur b (a :: S) = cur b S + (if a < b then 1 else 0) := by
  unfold cur; rw [List.countP_cons]; simp
theorem cur_ins (b v : Int) : ∀ S : List Int, cur b (insS v S) = cur b S + (if v < b then 1 else 0)
  | [] => by rw [insS, cur_cons]
  | a :: t => by
    rw [insS]
    by_cases h : v ≤ a
    · rw [if_pos h, cur_cons]
    · rw [if_neg h, cur_cons, cur_cons, cur_ins b v t]; omega
theorem cur_all {b : Int} : ∀ {S : List Int}, (∀ w ∈ S, w < b) → cur b S = S.length
  | [], _ => rfl
  | a :: t, h => by
    rw [cur_cons, if_pos (h a List.mem_cons_self), cur_all (fun w hw => h w (List.mem_cons_of_mem _ hw))]; rfl
theorem cur_none {b : Int} : ∀ {S : List Int}, (∀ w ∈ S, b ≤ w) → cur b S = 0
  | [], _ => rfl
  | a :: t, h => by
    have := h a List.mem_cons_self
    rw [cur_cons, if_neg (by omega), cur_none (fun w hw => h w (List.mem_cons_of_mem _ hw))]
/-- what stands while records are given; g: how many are -/
def rpJ (L : List (Int × Int)) (room g : Nat) (s : zR) : Prop :=
  s.1.length + g = s.2.2.2.1 ∧ s.2.2.2.1 = min L.length (room + g) ∧ (∀ w ∈ s.1, s.2.1 * 239880 ≤ w ∧ w < (s.2.1 + 2) * 239880) ∧ s.2.1 = (s.2.2.2.2.length : Int) ∧
  (∀ v ∈ s.2.2.2.2, (room : Int) ≤ v) ∧ s.2.2.2.2.sum + s.2.2.1 = (g : Int) ∧ s.1.Pairwise (· ≤ ·) ∧
  ((room : Int) ≤ s.2.2.1 + (cur ((s.2.1 + 1) * 239880) s.1 : Int) ∨ (s.2.2.2.1 = L.length ∧ ∀ w ∈ s.1, w < (s.2.1 + 1) * 239880)) ∧ ((g = 0 ∧ s.2.2.1 = 0) ∨ 1 ≤ s.2.2.1)
theorem ini_sorted (L : List (Int × Int)) : ∀ k, (ini L k).Pairwise (· ≤ ·)
  | 0 => List.Pairwise.nil
  | k + 1 => insS_sorted (ini_sorted L k)
theorem ini_mem {L : List (Int × Int)} {w : Int} : ∀ {k : Nat}, w ∈ ini L k → ∃ i, i < k ∧ w = wt L i
  | 0, h => absurd h List.not_mem_nil
  | k + 1, h => by
    rcases insS_mem.mp h with q | q
    · exact ⟨k, by omega, q⟩
    · obtain ⟨i, h1, h2⟩ := ini_mem q
      exact ⟨i, by omega, h2⟩
theorem rpJ_0 {L : List (Int × Int)} {room : Nat} (hb : zIn L) (hn : L.length ≤ 120) : rpJ L room 0 (ini L (min room L.length), 0, 0, min room L.length, []) := by
  have hw : ∀ w ∈ ini L (min room L.length), 0 ≤ w ∧ w < 239880 := fun w hw => by
    obtain ⟨i, h1, rfl⟩ := ini_mem hw
    exact wt_in hb (by omega)
  have hl := ini_len L (min room L.length)
  refine ⟨by simp [hl], by simp; omega, fun w h => by have := hw w h; simp; omega, by simp, by simp, by simp, ini_sorted L _, ?_, Or.inl ⟨rfl, rfl⟩⟩
  show (room : Int) ≤ 0 + (cur ((0 + 1) * 239880) (ini L (min room L.length)) : Int) ∨ _
  rw [cur_all (fun w h => by have := hw w h; omega), hl]
  by_cases e : room ≤ L.length
  · exact Or.inl (by omega)
  · refine Or.inr ⟨by show min room L.length = L.length; omega, fun w h => ?_⟩
    have := hw w h
    show w < (0 + 1) * 239880
    omega
theorem rpJ_1 {L : List (Int × Int)} {room g : Nat} {s : zR} (hr : 1 ≤ room) (hb : zIn L) (hn : L.length ≤ 120) (hg : g < L.length) (h : rpJ L room g s) : rpJ L room (g + 1) (rpT L s) := by
  obtain ⟨S, run, size, filled, acc⟩ := s
  obtain ⟨j1, j2, j3, j4, j5, j6, j7, j8, j9⟩ := h
  dsimp only at j1 j2 j3 j4 j5 j6 j7 j8 j9
  cases S with
  | nil => simp at j1; omega
  | cons a T =>
    obtain ⟨p1, p2⟩ := List.pairwise_cons.mp j7
    have ha := j3 a List.mem_cons_self
    have hT : ∀ w ∈ T, run * 239880 ≤ w ∧ w < (run + 2) * 239880 := fun w hw => j3 w (List.mem_cons_of_mem _ hw)
    have hrun0 : 0 ≤ run := by omega
    have hq : run ≤ a / 239880 ∧ a / 239880 ≤ run + 1 := by omega
    rw [List.length_cons] at j1
    have hwt : ∀ i, i < 120 → 0 ≤ wt L i ∧ wt L i < 239880 := fun i hi => wt_in hb hi
    by_cases hs : run < a / 239880
    · -- a new run
      have ha2 : (run + 1) * 239880 ≤ a := by omega
      have hT2 : ∀ w ∈ T, (run + 1) * 239880 ≤ w := fun w hw => Int.le_trans ha2 (p1 w hw)
      have hc0 : cur ((run + 1) * 239880) (a :: T) = 0 := cur_none fun w hw => by
        rcases List.mem_cons.mp hw with rfl | hw
        · exact ha2
        · exact hT2 w hw
      have hsz : (room : Int) ≤ size := by
        rcases j8 with j8 | ⟨-, j8⟩
        · rw [hc0] at j8; omega
        · have := j8 a List.mem_cons_self
          omega
      have hcT : cur ((run + 1 + 1) * 239880) T = T.length := cur_all fun w hw => by have := (hT w hw).2; omega
      have hacc : ∀ v ∈ acc ++ [size], (room : Int) ≤ v := fun v hv => by
        rcases List.mem_append.mp hv with q | q
        · exact j5 v q
        · rw [List.mem_singleton.mp q]; exact hsz
      have hsum : (acc ++ [size]).sum + 1 = ((g + 1 : Nat) : Int) := by rw [sum_app]; simp; omega
      by_cases hf : filled < L.length
      · simp only [rpT, if_pos hs, if_pos hf]
        have hw := hwt filled (by omega)
        generalize hnw : ((if wt L filled < a % 239880 then run + 1 + 1 else run + 1) * 239880 + wt L filled) = nw
        have hnw2 : (run + 1) * 239880 ≤ nw ∧ nw < (run + 1 + 2) * 239880 := by
          rw [← hnw]; by_cases q : wt L filled < a % 239880 <;> simp [q] <;> omega
        refine ⟨by show (insS nw T).length + (g + 1) = filled + 1; rw [insS_len]; omega, by show filled + 1 = min L.length (room + (g + 1)); omega, fun w hw => ?_, by show run + 1 = ((acc ++ [size]).length : Int); rw [List.length_append]; simp; omega, hacc, by show (acc ++ [size]).sum + (0 + 1) = ((g + 1 : Nat) : Int); omega, insS_sorted p2, Or.inl ?_, Or.inr (by show (1 : Int) ≤ 0 + 1; omega)⟩
        · show (run + 1) * 239880 ≤ w ∧ w < (run + 1 + 2) * 239880
          rcases insS_mem.mp hw with rfl | hw
          · exact hnw2
          · have := hT w hw
            have := hT2 w hw
            omega
        · show (room : Int) ≤ 0 + 1 + (cur ((run + 1 + 1) * 239880) (insS nw T) : Int)
          rw [cur_ins, hcT]
          by_cases q : nw < (run + 1 + 1) * 239880 <;> simp [q] <;> omega
      · simp only [rpT, if_pos hs, if_neg hf]
        refine ⟨by show T.length + (g + 1) = filled; omega, by show filled = min L.length (room + (g + 1)); omega, fun w hw => ?_, by show run + 1 = ((acc ++ [size]).length : Int); rw [List.length_append]; simp; omega, hacc, by show (acc ++ [size]).sum + (0 + 1) = ((g + 1 : Nat) : Int); omega, p2, Or.inr ⟨by show filled = L.length; omega, fun w hw => ?_⟩, Or.inr (by show (1 : Int) ≤ 0 + 1; omega)⟩
        · show (run + 1) * 239880 ≤ w ∧ w < (run + 1 + 2) * 239880
          have := hT w hw
          have := hT2 w hw
          omega
        · show w < (run + 1 + 1) * 239880
          have := hT w hw
          omega
    · -- the same run
      have ha2 : a < (run + 1) * 239880 := by omega
      rw [cur_cons, if_pos ha2] at j8
      have hsz : 1 ≤ size + 1 := by omega
      by_cases hf : filled < L.length
      · simp only [rpT, if_neg hs, if_pos hf]
        have hw := hwt filled (by omega)
        generalize hnw : ((if wt L filled < a % 239880 then run + 1 else run) * 239880 + wt L filled) = nw
        have hnw2 : run * 239880 ≤ nw ∧ nw < (run + 2) * 239880 := by
          rw [← hnw]; by_cases q : wt L filled < a % 239880 <;> simp [q] <;> omega
        refine ⟨by show (insS nw T).length + (g + 1) = filled + 1; rw [insS_len]; omega, by show filled + 1 = min L.length (room + (g + 1)); omega, fun w hw => ?_, j4, j5, by show acc.sum + (size + 1) = ((g + 1 : Nat) : Int); omega, insS_sorted p2, ?_, Or.inr hsz⟩
        · show run * 239880 ≤ w ∧ w < (run + 2) * 239880
          rcases insS_mem.mp hw with rfl | hw
          · exact hnw2
          · exact hT w hw
        · show (room : Int) ≤ size + 1 + (cur ((run + 1) * 239880) (insS nw T) : Int) ∨ (filled + 1 = L.length ∧ _)
          rw [cur_ins]
          rcases j8 with j8 | ⟨j8, -⟩
          · refine Or.inl ?_
            by_cases q : nw < (run + 1) * 239880 <;> simp [q] <;> omega
          · omega
      · simp only [rpT, if_neg hs, if_neg hf]
        refine ⟨by show T.length + (g + 1) = filled; omega, by show filled = min L.length (room + (g + 1)); omega, hT, j4, j5, by show acc.sum + (size + 1) = ((g + 1 : Nat) : Int); omega, p2, ?_, Or.inr hsz⟩
        show (room : Int) ≤ size + 1 + (cur ((run + 1) * 239880) T : Int) ∨ (filled = L.length ∧ ∀ w ∈ T, w < (run + 1) * 239880)
        rcases j8 with j8 | ⟨j8, j9⟩
        · exact Or.inl (by omega)
        · exact Or.inr ⟨j8, fun w hw => j9 w (List.mem_cons_of_mem _ hw)⟩
theorem rpJ_end {L : List (Int × Int)} {room : Nat} {s : zR} (hr : 1 ≤ room) (h : rpJ L room L.length s) : rsOK (rpS L 0 s) L.length room := by
  obtain ⟨S, run, size, filled, acc⟩ := s
  obtain ⟨j1, j2, j3, j4, j5, j6, j7, j8, j9⟩ := h
  dsimp only at j1 j2 j3 j4 j5 j6 j7 j8 j9
  show rsOK (if 0 < size then acc ++ [size] else acc) L.length room
  by_cases q : 0 < size
  · rw [if_pos q]
    exact rsOK_app (by omega) j5 (by omega) j6
  · rw [if_neg q]
    exact rsOK_acc (by omega) j5 (by omega)
theorem rpS_ok {L : List (Int × Int)} {room : Nat} (hr : 1 ≤ room) (hb : zIn L) (hn : L.length ≤ 120) : ∀ (k g : Nat) (s : zR), g + k = L.length → rpJ L room g s → rsOK (rpS L k s) L.length room
  | 0, g, s, h1, h2 => by
    have : g = L.length := by omega
    subst this
    exact rpJ_end hr h2
  | k + 1, g, s, h1, h2 => rpS_ok hr hb hn k (g + 1) (rpT L s) (by omega) (rpJ_1 hr hb hn (by omega) h2)
theorem mkR_ok {L : List (Int × Int)} {rep : Bool} {room : Nat} (hr : 1 ≤ room) (hb : zIn L) (hn : L.length ≤ 120) : rsOK (mkR L rep room) L.length room := by
  cases rep
  · show rsOK (rlS (max 1 room) L.length L.length []) L.length room
    rw [show max 1 room = room by omega]
    exact rlS_ok room L.length hr L.length L.length [] (Nat.le_refl _) (by simp) (by simp)
  · exact rpS_ok hr hb hn L.length 0 _ (by omega) (rpJ_0 hb hn)
