/-! the law's end, and its walk from its eighth byte on -/
def zXl (p : Program) (l : Launch) (e : Env) (s : State) (d0 : Drawn) (m : MethodId) (below : List Frame) (meth : Method) (c : Code) (b : Nat) (D : va_G) (ad : Nat → Nat) (cI cJ cO : ClassId) (cs sl : Nat) : z_X :=
  (p, l, e, room_1, s.setDrawn d0, m, #[Value.ref b], below, meth, c, lw_Z below #[Value.ref b] s, D, ad, (cI, cJ, cO), (s.setDrawn d0).heap.size, cs, sl)
theorem hend_of {p : Program} {l : Launch} {e : Env} {s : State} {d0 : Drawn} {m : MethodId} {below : List Frame} {meth : Method} {c : Code} {b : Nat} {D : va_G} {ad : Nat → Nat} {cI cJ cO : ClassId} {cs sl : Nat} (hd0 : s.drawn.sameBut d0 lw_cs)
    (C : Cx cL_law RL (some .boolean) 100 18 (zXl p l e s d0 m below meth c b D ad cI cJ cO cs sl)) (hcs : cs ≤ 600086) (hsl : sl ≤ 7301441) : zHend (zXl p l e s d0 m below meth c b D ad cI cJ cO cs sl) := by
  intro M pc lv hdec
  obtain ⟨hx, hb, hr, hml, hown, hts, hK, hN, hD, hlk, -⟩ := C
  intro H locs ls hP hS hl
  refine va_forget (fun q hq => hS.2.2 q hq) ?_
  refine W.widen (k := 600086) (n := 7301441) hcs hsl ?_
  exact lw_ret hd0 hx hb hr hlk hdec
theorem lw_from8 {p : Program} {l : Launch} {e : Env} {s : State} {d0 : Drawn} {m : MethodId} {below : List Frame} {meth : Method} {c : Code} {b L : Nat} {xs : Nat → Int32} {D : va_G} {ad : Nat → Nat} {cI cJ cO : ClassId} {cs sl : Nat} (hd0 : s.drawn.sameBut d0 lw_cs)
    (C : Cx cL_law RL (some .boolean) 100 18 (zXl p l e s d0 m below meth c b D ad cI cJ cO cs sl)) (hcs : cs ≤ 600086) (hsl : sl ≤ 7301441) (hX : va_X b L xs (s.setDrawn d0) (s.setDrawn d0).heap) (hb : b < (s.setDrawn d0).heap.size) (hL : L ≤ 260) {M : zM} (h0 : lw0 M) :
    G (zXl p l e s d0 m below meth c b D ad cI cJ cO cs sl) M 8 [some (.ref b), some (.ref (ad 95)), none, none, none, none, none, none, none, none, none, none, none, none, none, none, none, none] [] :=
  lw_begin C (hend_of hd0 C hcs hsl) (hcell_of C hX hb hb hL) h0
