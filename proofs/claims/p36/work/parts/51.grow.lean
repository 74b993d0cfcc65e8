/-! worlds that grow: what constructors do -/
abbrev nwL : List Cond := [.methodLinkNest RX8 36 yX4_init RX8, .methodLinkNest RX4 11 yX2_init RX8, .methodLinkNest RX4 36 yX0_init RX8, .methodLinkNest RX8 46 yX0_init RX8, .methodLinkNest RX8 53 yX7_init RX8, .methodLinkNest RX8 60 yX3_init RX8, .methodLinkNest RX3 11 yX5_init RX8, .methodLinkNest RX6 27 yX5_init RX8, .methodLinkNest RX8 74 yX1_init RX8, .methodLinkNest RX8 79 yX5_init RX8]
def z_NI (U : State) : Prop := (∀ w ∈ nwL, va_Nw w U) ∧ va_AO RX5 U
theorem nwL_M : ∀ w ∈ nwL, ∃ (a : String) (i : Nat) (x : MethodName) (h : String), w = .methodLinkNest a i x h := by
  intro w hw
  simp only [nwL, List.mem_cons, List.not_mem_nil, or_false] at hw
  rcases hw with rfl | rfl | rfl | rfl | rfl | rfl | rfl | rfl | rfl | rfl <;> exact ⟨_, _, _, _, rfl⟩
theorem z_NI.warm {s U : State} (hW : s.WarmedH U.vm) (h : z_NI s) : z_NI U := ⟨fun w hw => by
  obtain ⟨a, i, x, hh, rfl⟩ := nwL_M w hw
  exact va_Nw.warmM hW (h.1 _ hw), h.2.moved hW.alike⟩
theorem z_NI.same {u U : State} (h : u.vm = U.vm) (h1 : z_NI u) : z_NI U := ⟨fun w hw => by
  obtain ⟨a, i, x, hh, rfl⟩ := nwL_M w hw
  exact va_Nw.same rfl h (h1.1 _ hw), h1.2.moved (h ▸ Vm.Alike.refl _)⟩
def zC (X : z_X) : ClassId × ClassId × ClassId := X.2.2.2.2.2.2.2.2.2.2.2.2.2.1
def zcs (X : z_X) : Nat := X.2.2.2.2.2.2.2.2.2.2.2.2.2.2.2.1
def zsl (X : z_X) : Nat := X.2.2.2.2.2.2.2.2.2.2.2.2.2.2.2.2
def Gw (X : z_X) (w : va_W) (cells slots : Nat) (pc : Nat) (lv : List (Option Value)) (st : List Value) : Prop := match X with
  | (p, l, e, R, s, m, args, below, meth, c, Q, D, ad, (cI, cJ, cO), lo, cs, sl) => ∀ (H : Heap) (locs : List Loc) (ls : Array Slot), va_P D vwCl w H → va_D (fun q => lo ≤ q) w → va_S (fun q => lo ≤ q) s.heap H locs → lv_has ls lv.length (z_al 0 lv) → W p l e R s m args below meth c H locs cells slots Q (F0 m pc ls st)
def Cw (cc : ByteArray) (own : String) (d n : Nat) (X : z_X) : Prop := match X with
  | (p, l, e, R, s, m, args, below, meth, c, Q, D, ad, (cI, cJ, cO), lo, cs, sl) => p.tables.exec = Jvm.exec ∧ c.code = cc ∧ meth.sig.returnType = none ∧ c.maxLocals = n ∧ s.vm.findClass own = some m.cls ∧ (∀ w ∈ tT, w.before args s = true) ∧ va_K D vwCl (z_tys cI cJ cO) s ∧ z_NI s ∧ lo ≤ s.heap.size ∧ meth.locks = false ∧ meth.name = "<init>" ∧ (d ≤ R.frames ∧ 40 * d ≤ R.locals) ∧ (cs ≤ R.cells ∧ sl ≤ R.slots)
theorem tw_o2 : Cond.instanceMethod objectInit ∈ tT := tT_i (i := 23) (by decide +kernel) (by decide +kernel)
theorem tw_o3 : Cond.code objectInit ⟨#[0xb1]⟩ 1 none ∈ tT := tT_i (i := 24) (by decide +kernel) (by decide +kernel)
section
variable {X : z_X} {cc : ByteArray} {own : String} {d n : Nat} {w tl : va_W} {cells slots : Nat} {pc : Nat} {lv : List (Option Value)} {st : List Value}
theorem h_aload_n (C : Cw cc own d n X) {k : Fin 4} {x : Nat} (hd : decode cc pc = .ok (.aload_n k, 1)) (hv : lv[(k : Nat)]? = some (some (.ref x))) (kk : Gw X w cells slots (pc + 1) lv (.ref x :: st)) : Gw X w cells slots pc lv st := by
  obtain ⟨p, l, e, R, s, m, args, below, meth, c, Q, D, ad, ⟨cI, cJ, cO⟩, lo, cs, sl⟩ := X
  obtain ⟨hx, hb, -⟩ := C
  exact fun H locs ls hP hD hS hl => lv_aload_n hx hb hd rfl (zal_get hl hv) (kk H locs ls hP hD hS hl)
theorem h_iload_n (C : Cw cc own d n X) {k : Fin 4} {x : Int32} (hd : decode cc pc = .ok (.iload_n k, 1)) (hv : lv[(k : Nat)]? = some (some (.int x))) (kk : Gw X w cells slots (pc + 1) lv (.int x :: st)) : Gw X w cells slots pc lv st := by
  obtain ⟨p, l, e, R, s, m, args, below, meth, c, Q, D, ad, ⟨cI, cJ, cO⟩, lo, cs, sl⟩ := X
  obtain ⟨hx, hb, -⟩ := C
  exact fun H locs ls hP hD hS hl => lv_iload_n hx hb hd rfl (zal_get hl hv) (kk H locs ls hP hD hS hl)
theorem h_iconst (C : Cw cc own d n X) {x : Int} (hd : decode cc pc = .ok (.iconst x, 1)) (kk : Gw X w cells slots (pc + 1) lv (.int (jI x) :: st)) : Gw X w cells slots pc lv st := by
  obtain ⟨p, l, e, R, s, m, args, below, meth, c, Q, D, ad, ⟨cI, cJ, cO⟩, lo, cs, sl⟩ := X
  obtain ⟨hx, hb, -⟩ := C
  exact fun H locs ls hP hD hS hl => lv_iconst hx hb hd rfl (kk H locs ls hP hD hS hl)
theorem h_bipush (C : Cw cc own d n X) {x : Int} (hd : decode cc pc = .ok (.bipush x, 2)) (hv : (Int8.ofInt x).toInt32 = jI x) (kk : Gw X w cells slots (pc + 2) lv (.int (jI x) :: st)) : Gw X w cells slots pc lv st := by
  obtain ⟨p, l, e, R, s, m, args, below, meth, c, Q, D, ad, ⟨cI, cJ, cO⟩, lo, cs, sl⟩ := X
  obtain ⟨hx, hb, -⟩ := C
  exact fun H locs ls hP hD hS hl => lv_bipush hx hb hd hv (kk H locs ls hP hD hS hl)
theorem h_dup (C : Cw cc own d n X) {v : Value} (hd : decode cc pc = .ok (.dup, 1)) (hv : v.category = 1) (kk : Gw X w cells slots (pc + 1) lv (v :: v :: st)) : Gw X w cells slots pc lv (v :: st) := by
  obtain ⟨p, l, e, R, s, m, args, below, meth, c, Q, D, ad, ⟨cI, cJ, cO⟩, lo, cs, sl⟩ := X
  obtain ⟨hx, hb, -⟩ := C
  exact fun H locs ls hP hD hS hl => lv_dup hx hb hd hv (kk H locs ls hP hD hS hl)
theorem h_obj (C : Cw cc own d n X) (h1 : 1 ≤ d) {idx a : Nat} (hl0 : Cond.methodLink own idx objectInit ∈ tT) (hlen : lv.length = n) (hcat : (st.map fun v => v.category).sum ≤ 8) (hd : decode cc pc = .ok (.invokespecial idx, 3)) (kk : Gw X w cells slots (pc + 3) lv st) : Gw X w cells slots pc lv (.ref a :: st) := by
  obtain ⟨p, l, e, R, s, m, args, below, meth, c, Q, D, ad, ⟨cI, cJ, cO⟩, lo, cs, sl⟩ := X
  obtain ⟨hx, hb, hr, hml, hown, hts, hK, hN, hlo, hlk, hin, ⟨hR1, hR2⟩, hR3⟩ := C
  intro H locs ls hP hD hS hl
  refine W.objInit hx hb hown (hts _ hl0) (hts _ tw_o2) (hts _ tw_o3) rfl (by rw [hml]; exact hl.1.trans hlen) rfl hd (by omega) ?_ ?_
  · show 2 * 0 + (st.map fun v => v.category).sum + 12 ≤ R.locals
    omega
  · refine W.eq (g2 := F0 m (pc + 3) ls st) rfl ?_
    exact kk H locs ls hP hD hS hl
theorem h_newI (C : Cw cc own d n X) {N : Nat} (hN : N ≤ 120) (hc : cells + 1 ≤ zcs X) (hs : slots + N ≤ zsl X) (hd : decode cc pc = .ok (.newarray .int, 2)) (kk : ∀ q : Nat, Gw X (w ++ (tl ++ [(q, .inl ((zC X).1, N, .inl (fun _ => jI 0)))])) (cells + 1) (slots + N) (pc + 2) lv (.ref q :: st)) : Gw X (w ++ tl) cells slots pc lv (.int (jI (N : Int)) :: st) := by
  obtain ⟨p, l, e, R, s, m, args, below, meth, c, Q, D, ad, ⟨cI, cJ, cO⟩, lo, cs, sl⟩ := X
  obtain ⟨hx, hb, hr, hml, hown, hts, hK, hN', hlo, hlk, hin, hR, hR3⟩ := C
  replace hc : cells + 1 ≤ cs := hc
  replace hs : slots + N ≤ sl := hs
  intro H locs ls hP hD hS hl
  refine va_newa (atype := .int) hx hb (hts _ tw_46) rfl hK hP hD hS (fun q h => Nat.le_trans hlo h) (a0 := (N, .inl (fun _ => jI 0))) (N' := N) (fun cA => rfl) (by rw [← jI_0, jI_lt (by omega) (by omega)]; omega) (jI_cl (by omega)) (Nat.le_trans (Nat.mul_le_mul hN (Nat.le_refl _)) (by decide)) (by omega) (by omega) hd fun q cA H1 hK1 hP1 hD1 hS1 => ?_
  have e : cA = cI := Option.some.inj ((hK1.2 3 _ rfl).2.symm.trans (hK.2 0 _ rfl).2)
  subst e
  rw [List.append_assoc] at hP1 hD1
  exact kk q H1 locs ls hP1 hD1 hS1 hl
theorem gw_at {w tl : va_W} {i : Nat} {x : Nat × va_E} (h : tl[i]? = some x) : (w ++ tl)[w.length + i]? = some x := by
  rw [List.getElem?_append_right (by omega)]
  rw [show w.length + i - w.length = i by omega]; exact h
theorem gw_set {w tl : va_W} {i : Nat} {x : Nat × va_E} : (w ++ tl).set (w.length + i) x = w ++ tl.set i x := by
  rw [List.set_append_right _ _ (by omega)]
  rw [show w.length + i - w.length = i by omega]
theorem h_put (C : Cw cc own d n X) (i : Nat) {a idx k ci N : Nat} {Cn : String} {T : u_T} {ty0 : Nat → FieldType} {fs : List Value} {v : Value} {ty : FieldType} (he : tl[i]? = some (a, .inr (ci, fs))) (hc : vwCl[ci]? = some (Cn, T, N)) (hu : ∀ w ∈ u_ws Cn T N, w ∈ tT) (hty : ∀ k, k < N → parseFieldDescriptor (T k).2.2.1 = some (ty0 k)) (hnm : ∀ a, a < N → ∀ b, b < N → a ≠ b → (T a).2.1 ≠ (T b).2.1) (hk : k < N) (hl0 : Cond.fieldLink own idx (T k).1 (T k).2.1 (T k).2.2.1 ∈ tT) (hfin : (T k).2.2.2 = false) (hd0 : parseFieldDescriptor (T k).2.2.1 = some ty) (hn : narrow ty v = v) (hfit : fits ty v = true) (hlen : k < fs.length) (hd : decode cc pc = .ok (.putfield idx, 3)) (kk : Gw X (w ++ tl.set i (a, .inr (ci, fs.set k v))) cells slots (pc + 3) lv st) : Gw X (w ++ tl) cells slots pc lv (v :: .ref a :: st) := by
  obtain ⟨p, l, e, R, s, m, args, below, meth, c, Q, D, ad, ⟨cI, cJ, cO⟩, lo, cs, sl⟩ := X
  obtain ⟨hx, hb, hr, hml, hown, hts, hK, hN', hlo, hlk, hin, hR, hR3⟩ := C
  intro H locs ls hP hD hS hl
  refine va_put hx hb hts hu ty0 hty hnm hown hK hP hD hS (w.length + i) (gw_at he) hc k hk (hts _ hl0) (fun _ h => h) hfin hd0 hn hfit hlen hd fun H1 locs1 hP1 hD1 hS1 => ?_
  rw [gw_set] at hP1 hD1
  exact kk H1 locs1 ls hP1 hD1 hS1 hl
theorem h_putF (C : Cw cc own d n X) (i : Nat) {a idx k ci N : Nat} {Cn : String} {T : u_T} {ty0 : Nat → FieldType} {fs : List Value} {v : Value} {ty : FieldType} (he : tl[i]? = some (a, .inr (ci, fs))) (hc : vwCl[ci]? = some (Cn, T, N)) (hu : ∀ w ∈ u_ws Cn T N, w ∈ tT) (hty : ∀ k, k < N → parseFieldDescriptor (T k).2.2.1 = some (ty0 k)) (hnm : ∀ a, a < N → ∀ b, b < N → a ≠ b → (T a).2.1 ≠ (T b).2.1) (hk : k < N) (hl0 : Cond.fieldLink own idx (T k).1 (T k).2.1 (T k).2.2.1 ∈ tT) (hfin : (T k).2.2.2 = true) (hdecl : (T k).1 = own) (hd0 : parseFieldDescriptor (T k).2.2.1 = some ty) (hn : narrow ty v = v) (hfit : fits ty v = true) (hlen : k < fs.length) (hd : decode cc pc = .ok (.putfield idx, 3)) (kk : Gw X (w ++ tl.set i (a, .inr (ci, fs.set k v))) cells slots (pc + 3) lv st) : Gw X (w ++ tl) cells slots pc lv (v :: .ref a :: st) := by
  obtain ⟨p, l, e, R, s, m, args, below, meth, c, Q, D, ad, ⟨cI, cJ, cO⟩, lo, cs, sl⟩ := X
  obtain ⟨hx, hb, hr, hml, hown, hts, hK, hN', hlo, hlk, hin, hR, hR3⟩ := C
  intro H locs ls hP hD hS hl
  refine va_putF hx hb hts hu ty0 hty hnm hown hK hP hD hS (w.length + i) (gw_at he) hc k hk (hts _ hl0) (fun _ h => h) hfin hin hdecl hd0 hn hfit hlen hd fun H1 locs1 hP1 hD1 hS1 => ?_
  rw [gw_set] at hP1 hD1
  exact kk H1 locs1 ls hP1 hD1 hS1 hl
end
