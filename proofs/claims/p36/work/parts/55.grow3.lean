/-! arrays of rows in growing worlds -/
section
variable {X : z_X} {cc : ByteArray} {own : String} {d n : Nat} {w tl : va_W} {cells slots : Nat} {pc : Nat} {lv : List (Option Value)} {st : List Value}
theorem h_getf (C : Cw cc own d n X) (i : Nat) {a idx k ci N : Nat} {Cn : String} {T : u_T} {fs : List Value} {v : Value} (he : tl[i]? = some (a, .inr (ci, fs))) (hc : vwCl[ci]? = some (Cn, T, N)) (hu : ∀ w ∈ u_ws Cn T N, w ∈ tT) (hk : k < N) (hl0 : Cond.fieldLink own idx (T k).1 (T k).2.1 (T k).2.2.1 ∈ tT) (hv : fs[k]? = some v) (hd : decode cc pc = .ok (.getfield idx, 3)) (kk : Gw X (w ++ tl) cells slots (pc + 3) lv (v :: st)) : Gw X (w ++ tl) cells slots pc lv (.ref a :: st) := by
  obtain ⟨p, l, e, R, s, m, args, below, meth, c, Q, D, ad, ⟨cI, cJ, cO⟩, lo, cs, sl⟩ := X
  obtain ⟨hx, hb, hr, hml, hown, hts, hK, hN', hlo, hlk, hin, hR, hR3⟩ := C
  exact fun H locs ls hP hD hS hl => va_get hx hb hts hu hown hK hP (w.length + i) (gw_at he) hc k hk (hts _ hl0) (fun _ h => h) hv hd (kk H locs ls hP hD hS hl)
theorem h_ast (C : Cw cc own d n X) (i j k : Nat) {a b N : Nat} {f : Nat → Option Nat} {fs : List Value} (hi : tl[i]? = some (a, .inl ((zC X).2.2, N, .inr (.inr (.inr (.inr f)))))) (hj : tl[j]? = some (b, .inr (5, fs))) (hk : k < N) (hN : N < 1000) (hd : decode cc pc = .ok (.aastore, 1)) (kk : Gw X (w ++ tl.set i (a, .inl ((zC X).2.2, N, .inr (.inr (.inr (.inr (va_up f k (some b)))))))) cells slots (pc + 1) lv st) : Gw X (w ++ tl) cells slots pc lv (.ref b :: .int (jI (k : Int)) :: .ref a :: st) := by
  obtain ⟨p, l, e, R, s, m, args, below, meth, c, Q, D, ad, ⟨cI, cJ, cO⟩, lo, cs, sl⟩ := X
  obtain ⟨hx, hb, hr, hml, hown, hts, hK, hN', hlo, hlk, hin, hR, hR3⟩ := C
  intro H locs ls hP hD hS hl
  refine va_astq (f := f) hx hb hK hP hD hS (w.length + i) 2 (w.length + j) 5 (r := (RX5, TX5, 3)) (gw_at hi) rfl (gw_at hj) rfl (jI_in hk (by omega)) hd fun H1 locs1 hP1 hD1 hS1 => ?_
  rw [jI_cl (by omega), gw_set] at hP1 hD1
  exact kk H1 locs1 ls hP1 hD1 hS1 hl
theorem h_istore_n (C : Cw cc own d n X) {k : Fin 4} {x : Int32} (hd : decode cc pc = .ok (.istore_n k, 1)) (hk : (k : Nat) < lv.length) (kk : Gw X w cells slots (pc + 1) (z_st lv k (.int x)) st) : Gw X w cells slots pc lv (.int x :: st) := by
  obtain ⟨p, l, e, R, s, m, args, below, meth, c, Q, D, ad, ⟨cI, cJ, cO⟩, lo, cs, sl⟩ := X
  obtain ⟨hx, hb, -⟩ := C
  exact fun H locs ls hP hD hS hl => lv_istore_n hx hb hd rfl hl hk rfl fun ls' hl' => kk H locs ls' hP hD hS (by rw [zst_len]; exact zst_has hl')
theorem h_goto (C : Cw cc own d n X) {off : Int} {tgt : Nat} (hd : decode cc pc = .ok (.goto off, 3)) (ht : (pc : Int) + off = (tgt : Int)) (kk : Gw X w cells slots tgt lv st) : Gw X w cells slots pc lv st := by
  obtain ⟨p, l, e, R, s, m, args, below, meth, c, Q, D, ad, ⟨cI, cJ, cO⟩, lo, cs, sl⟩ := X
  obtain ⟨hx, hb, -⟩ := C
  exact fun H locs ls hP hD hS hl => lv_goto hx hb hd ht (kk H locs ls hP hD hS hl)
theorem h_icmp_no (C : Cw cc own d n X) {x y off : Int} {tgt : Nat} (hd : decode cc pc = .ok (.if_icmp .ge off, 3)) (ht : (pc : Int) + off = (tgt : Int)) (h : ¬ jI y ≤ jI x) (k2 : Gw X w cells slots (pc + 3) lv st) : Gw X w cells slots pc lv (.int (jI y) :: .int (jI x) :: st) := by
  obtain ⟨p, l, e, R, s, m, args, below, meth, c, Q, D, ad, ⟨cI, cJ, cO⟩, lo, cs, sl⟩ := X
  obtain ⟨hx, hb, -⟩ := C
  exact fun H locs ls hP hD hS hl => lv_icmp_ge hx hb hd ht (fun q => absurd q h) (fun _ => k2 H locs ls hP hD hS hl)
theorem h_icmp_yes (C : Cw cc own d n X) {x y off : Int} {tgt : Nat} (hd : decode cc pc = .ok (.if_icmp .ge off, 3)) (ht : (pc : Int) + off = (tgt : Int)) (h : jI y ≤ jI x) (k1 : Gw X w cells slots tgt lv st) : Gw X w cells slots pc lv (.int (jI y) :: .int (jI x) :: st) := by
  obtain ⟨p, l, e, R, s, m, args, below, meth, c, Q, D, ad, ⟨cI, cJ, cO⟩, lo, cs, sl⟩ := X
  obtain ⟨hx, hb, -⟩ := C
  exact fun H locs ls hP hD hS hl => lv_icmp_ge hx hb hd ht (fun _ => k1 H locs ls hP hD hS hl) (fun q => absurd h q)
end
