/-! objects made, constructors called -/
section
variable {X : z_X} {cc : ByteArray} {own : String} {d n : Nat} {w tl : va_W} {cells slots : Nat} {pc : Nat} {lv : List (Option Value)} {st : List Value}
theorem h_newJ (C : Cw cc own d n X) {N : Nat} (hN : N ≤ 120) (hc : cells + 1 ≤ zcs X) (hs : slots + N ≤ zsl X) (hd : decode cc pc = .ok (.newarray .long, 2)) (kk : ∀ q : Nat, Gw X (w ++ (tl ++ [(q, .inl ((zC X).2.1, N, .inr (.inl (fun _ => jL 0))))])) (cells + 1) (slots + N) (pc + 2) lv (.ref q :: st)) : Gw X (w ++ tl) cells slots pc lv (.int (jI (N : Int)) :: st) := by
  obtain ⟨p, l, e, R, s, m, args, below, meth, c, Q, D, ad, ⟨cI, cJ, cO⟩, lo, cs, sl⟩ := X
  obtain ⟨hx, hb, hr, hml, hown, hts, hK, hN', hlo, hlk, hin, hR, hR3⟩ := C
  replace hc : cells + 1 ≤ cs := hc
  replace hs : slots + N ≤ sl := hs
  intro H locs ls hP hD hS hl
  refine va_newa (atype := .long) hx hb (hts _ tw_212) rfl hK hP hD hS (fun q h => Nat.le_trans hlo h) (a0 := (N, .inr (.inl (fun _ => jL 0)))) (N' := N) (fun cA => rfl) (by rw [← jI_0, jI_lt (by omega) (by omega)]; omega) (jI_cl (by omega)) (Nat.le_trans (Nat.mul_le_mul hN (Nat.le_refl _)) (by decide)) (by omega) (by omega) hd fun q cA H1 hK1 hP1 hD1 hS1 => ?_
  have e : cA = cJ := Option.some.inj ((hK1.2 3 _ rfl).2.symm.trans (hK.2 1 _ rfl).2)
  subst e
  rw [List.append_assoc] at hP1 hD1
  exact kk q H1 locs ls hP1 hD1 hS1 hl
theorem h_newQ (C : Cw cc own d n X) {N idx : Nat} (hN : N ≤ 120) (hc : cells + 1 ≤ zcs X) (hs : slots + N ≤ zsl X) (hl0 : Cond.classLink own idx RX5 ∈ tT) (hd : decode cc pc = .ok (.anewarray idx, 3)) (kk : ∀ q : Nat, Gw X (w ++ (tl ++ [(q, .inl ((zC X).2.2, N, .inr (.inr (.inr (.inr (fun _ => none))))))])) (cells + 1) (slots + N) (pc + 3) lv (.ref q :: st)) : Gw X (w ++ tl) cells slots pc lv (.int (jI (N : Int)) :: st) := by
  obtain ⟨p, l, e, R, s, m, args, below, meth, c, Q, D, ad, ⟨cI, cJ, cO⟩, lo, cs, sl⟩ := X
  obtain ⟨hx, hb, hr, hml, hown, hts, hK, hN', hlo, hlk, hin, hR, hR3⟩ := C
  replace hc : cells + 1 ≤ cs := hc
  replace hs : slots + N ≤ sl := hs
  intro H locs ls hP hD hS hl
  refine va_newq hx hb hown (hts _ hl0) hN'.2 hK hP hD hS (fun q h => Nat.le_trans hlo h) (N' := N) (by rw [← jI_0, jI_lt (by omega) (by omega)]; omega) (jI_cl (by omega)) (by omega) (by omega) (by omega) hd fun q cA H1 hK1 hP1 hD1 hS1 => ?_
  have e : cA = cO := by
    obtain ⟨k1, c1, -, -, -, h1⟩ := (hK1.2 3 _ rfl).2
    obtain ⟨k2, c2, -, -, -, h2⟩ := (hK.2 2 _ rfl).2
    exact Option.some.inj (h1.symm.trans h2)
  subst e
  rw [List.append_assoc] at hP1 hD1
  exact kk q H1 locs ls hP1 hD1 hS1 hl
theorem h_new (C : Cw cc own d n X) {idx ci N : Nat} {Cn : String} {T : u_T} {ty0 : Nat → FieldType} {fs : List Value} (hl0 : Cond.classLink own idx Cn ∈ tT) (hinst : Cond.instantiable Cn N ∈ tT) (hini : Cond.initialized Cn ∈ tT) (hc : vwCl[ci]? = some (Cn, T, N)) (hu : ∀ w ∈ u_ws Cn T N, w ∈ tT) (hty : ∀ k, k < N → parseFieldDescriptor (T k).2.2.1 = some (ty0 k)) (hfs : ∀ j, j < N → defaultValue (ty0 j) = vp_V fs j) (hcs : cells + 1 ≤ zcs X) (hsl : slots + N ≤ zsl X) (hd : decode cc pc = .ok (.new idx, 3)) (kk : ∀ q : Nat, Gw X (w ++ (tl ++ [(q, .inr (ci, fs))])) (cells + 1) (slots + N) (pc + 3) lv (.ref q :: st)) : Gw X (w ++ tl) cells slots pc lv st := by
  obtain ⟨p, l, e, R, s, m, args, below, meth, c, Q, D, ad, ⟨cI, cJ, cO⟩, lo, cs, sl⟩ := X
  obtain ⟨hx, hb, hr, hml, hown, hts, hK, hN', hlo, hlk, hin, hR, hR3⟩ := C
  replace hcs : cells + 1 ≤ cs := hcs
  replace hsl : slots + N ≤ sl := hsl
  intro H locs ls hP hD hS hl
  refine va_new hx hb hts hu ty0 hty hown (hts _ hl0) (hts _ hinst) (hts _ hini) hK hP hD hS (fun q h => Nat.le_trans hlo h) hc hfs (by omega) (by omega) hd fun q H1 hP1 hD1 hS1 => ?_
  rw [List.append_assoc] at hP1 hD1
  exact kk q H1 locs ls hP1 hD1 hS1 hl
theorem gw_call {p : Program} {l : Launch} {e : Env} {R : Room} {s : State} {m : MethodId} {args : Array Value} {below : List Frame} {meth : Method} {c : Code} {H : Heap} {locs : List Loc} {cells slots mc ms : Nat} {Q : State → Prop} {ls : Array Slot} {rest st0 : List Value} {a : Array Value} {H0 : Heap} {D : va_G} {lo : Nat} {F : (Nat → Nat) → va_W} {pc : Nat}
    (hr : va_Run p l e R s m args below meth c H locs cells slots mc ms (F0 m pc ls st0) rest ((fun _ st o t => (o = .returned none ∧ ∃ as : Nat → Nat, va_P D vwCl (F as) t.heap ∧ va_D (fun q => lo ≤ q) (F as)) ∧ va_F (fun q => lo ≤ q) st t) a) (fun q => lo ≤ q)) (hS : va_S (fun q => lo ≤ q) H0 H locs)
    (kk : ∀ (as : Nat → Nat) (H1 : Heap) (locs1 : List Loc), va_P D vwCl (F as) H1 → va_D (fun q => lo ≤ q) (F as) → va_S (fun q => lo ≤ q) H0 H1 locs1 → W p l e R s m args below meth c H1 locs1 (cells + mc) (slots + ms) Q (F0 m (pc + 3) ls rest)) : W p l e R s m args below meth c H locs cells slots Q (F0 m pc ls st0) := by
  intro T hT X
  obtain ⟨v, st₀, t, T', L, h0, X', hL, e1, e2, ⟨⟨hv, as, hp, hd⟩, hz, hk⟩, st⟩ := hr T hT X
  cases hv
  rw [h0] at hz hk
  obtain ⟨t2, a1, b1⟩ := kk as T'.heap (locs ++ L) (by rw [e1]; exact hp) hd
    ⟨Nat.le_trans hS.1 (by rw [e1]; exact hz), fun q h1 h2 => by rw [e1, hk q (Nat.lt_of_lt_of_le h1 hS.1) h2]; exact hS.2.1 q h1 h2, fun q hq => by
      rcases List.mem_append.mp hq with h | h
      · exact hS.2.2 q h
      · exact hL q h⟩ T' rfl X'
  exact ⟨t2, st t2 a1, b1⟩
theorem h_initN (C : Cw cc own d n X) {y : MethodName} {cc' : ByteArray} {n' d' ci mc ms idx q : Nat} {fs0 : List Value} {out : ClassId × ClassId × ClassId → Nat → (Nat → Nat) → va_W} (hM : Kt (zL X) d' y cc' n' ci fs0 mc ms out) (hl0 : Cond.methodLinkNest own idx y RX8 ∈ nwL) (hcode : Cond.code y cc' n' none ∈ tT) (hinst : Cond.instanceMethod y ∈ tT) (hini : Cond.initialized y.cls ∈ tT) (hy : y.name = "<init>") (hy2 : y.cls ≠ "java/lang/invoke/MethodHandle" ∧ y.cls ≠ "java/lang/invoke/VarHandle" ∧ (parseMethodDescriptor y.desc).map (fun d => d.parameters.length) = some 0) (hdep : d' + 1 ≤ d ∧ n' ≤ 20) (hcs : cells + mc ≤ zcs X) (hsl : slots + ms ≤ zsl X) (hlen : lv.length = n) (hcat : (st.map fun v => v.category).sum ≤ 8) (hd : decode cc pc = .ok (.invokespecial idx, 3)) (kk : ∀ as : Nat → Nat, Gw X (w ++ (tl ++ out (zC X) q as)) (cells + mc) (slots + ms) (pc + 3) lv st) : Gw X (w ++ (tl ++ [(q, .inr (ci, fs0))])) cells slots pc lv (.ref q :: st) := by
  obtain ⟨p, l, e, R, s, m, args, below, meth, c, Q, D, ad, ⟨cI, cJ, cO⟩, lo, cs, sl⟩ := X
  obtain ⟨hx, hb, hr, hml, hown, hts, hK, hN, hlo, hlk, hin, ⟨hR1, hR2⟩, hR3⟩ := C
  replace hcs : cells + mc ≤ cs := hcs
  replace hsl : slots + ms ≤ sl := hsl
  intro H locs ls hP hD hS hl
  have hM1 := hM D cI cJ cO lo (w ++ tl) q
  rw [← List.append_assoc] at hP hD
  refine gw_call (a := #[Value.ref q]) (F := fun as => (w ++ tl) ++ out (cI, cJ, cO) q as) (va_runIN (As := []) (rest := st) (b := q) (own := own) (index := idx) (n := 0) (nL := n) (bytes := cc') (maxL := n') ⟨hx, hb, hml, hown, hts⟩ hM1 ⟨va_cnB 0 hts (z_good hcode) rfl rfl rfl (hN.1 _ hl0) (hts _ hini) hy2 ⟨by show d' + 1 ≤ R.frames; omega, by show 8 + (n' + 11) + 40 * d' ≤ R.locals; omega⟩, hy, hts _ hinst⟩ ⟨fun a U g mk h => ⟨h.1, h.2.1, va_K.moved (u := U) (U := U.calling g mk a) (Vm.Alike.refl U.vm) h.2.2.1, z_NI.same (u := U) (U := U.calling g mk a) rfl h.2.2.2.1, h.2.2.2.2.1, h.2.2.2.2.2⟩, fun U hU hW => ⟨rfl, by rw [hU]; exact hP, va_K.moved hW.alike hK, hN.warm hW, hD, by rw [hU]; exact Nat.le_trans hlo hS.1⟩⟩ rfl rfl (hl.1.trans hlen) rfl (lv_room hcat) hd ⟨by omega, by omega⟩) hS fun as H1 locs1 hP1 hD1 hS1 => ?_
  rw [List.append_assoc] at hP1 hD1
  exact kk as H1 locs1 ls hP1 hD1 hS1 hl
theorem h_init (C : Cw cc own d n X) {y : MethodName} {cc' : ByteArray} {n' d' ci mc ms idx q : Nat} {fs0 : List Value} {out : ClassId × ClassId × ClassId → Nat → (Nat → Nat) → va_W} (hM : Kt (zL X) d' y cc' n' ci fs0 mc ms out) (hl0 : Cond.methodLink own idx y ∈ tT) (hcode : Cond.code y cc' n' none ∈ tT) (hinst : Cond.instanceMethod y ∈ tT) (hini : Cond.initialized y.cls ∈ tT) (hy : y.name = "<init>") (hy2 : y.cls ≠ "java/lang/invoke/MethodHandle" ∧ y.cls ≠ "java/lang/invoke/VarHandle" ∧ (parseMethodDescriptor y.desc).map (fun d => d.parameters.length) = some 0) (hdep : d' + 1 ≤ d ∧ n' ≤ 20) (hcs : cells + mc ≤ zcs X) (hsl : slots + ms ≤ zsl X) (hlen : lv.length = n) (hcat : (st.map fun v => v.category).sum ≤ 8) (hd : decode cc pc = .ok (.invokespecial idx, 3)) (kk : ∀ as : Nat → Nat, Gw X (w ++ (tl ++ out (zC X) q as)) (cells + mc) (slots + ms) (pc + 3) lv st) : Gw X (w ++ (tl ++ [(q, .inr (ci, fs0))])) cells slots pc lv (.ref q :: st) := by
  obtain ⟨p, l, e, R, s, m, args, below, meth, c, Q, D, ad, ⟨cI, cJ, cO⟩, lo, cs, sl⟩ := X
  obtain ⟨hx, hb, hr, hml, hown, hts, hK, hN, hlo, hlk, hin, ⟨hR1, hR2⟩, hR3⟩ := C
  replace hcs : cells + mc ≤ cs := hcs
  replace hsl : slots + ms ≤ sl := hsl
  intro H locs ls hP hD hS hl
  have hM1 := hM D cI cJ cO lo (w ++ tl) q
  rw [← List.append_assoc] at hP hD
  refine gw_call (a := #[Value.ref q]) (F := fun as => (w ++ tl) ++ out (cI, cJ, cO) q as) (va_runI (As := []) (rest := st) (b := q) (own := own) (index := idx) (n := 0) (nL := n) (bytes := cc') (maxL := n') ⟨hx, hb, hml, hown, hts⟩ hM1 ⟨callB_of 0 hts (z_good hcode) rfl rfl rfl (hts _ hini) (hts _ hl0) hy2 ⟨by show d' + 1 ≤ R.frames; omega, by show 8 + (n' + 11) + 40 * d' ≤ R.locals; omega⟩, hy, hts _ hinst⟩ ⟨fun a U g mk h => ⟨h.1, h.2.1, va_K.moved (u := U) (U := U.calling g mk a) (Vm.Alike.refl U.vm) h.2.2.1, z_NI.same (u := U) (U := U.calling g mk a) rfl h.2.2.2.1, h.2.2.2.2.1, h.2.2.2.2.2⟩, fun U hU hW => ⟨rfl, by rw [hU]; exact hP, va_K.moved hW.alike hK, hN.warm hW, hD, by rw [hU]; exact Nat.le_trans hlo hS.1⟩⟩ rfl rfl (hl.1.trans hlen) rfl (lv_room hcat) hd ⟨by omega, by omega⟩) hS fun as H1 locs1 hP1 hD1 hS1 => ?_
  rw [List.append_assoc] at hP1 hD1
  exact kk as H1 locs1 ls hP1 hD1 hS1 hl
end
