/-! One judgement over the machine, G: the frame at pc with locals lv and operands st, over every heap that holds the table M. -/
abbrev z_tys (cI cJ cO : ClassId) : List (ClassId × FieldType) := [(cI, .int), (cJ, .long), (cO, .object "MoraineSort$Row")]
/-- what else the machine's tables say: two links to private members of the nest's host -/
def z_N (U : State) : Prop := va_Nw (.methodLinkNest RX4 88 yX8_weightOf RX8) U ∧ va_Nw (.methodLinkNest RX4 99 yX8_pagesFor RX8) U
theorem z_N.warm {s U : State} (hW : s.WarmedH U.vm) (h : z_N s) : z_N U := ⟨va_Nw.warmM hW h.1, va_Nw.warmM hW h.2⟩
theorem z_N.same {u U : State} (h : u.vm = U.vm) (h1 : z_N u) : z_N U := ⟨va_Nw.same rfl h h1.1, va_Nw.same rfl h h1.2⟩
/-- everything that stays the same through a method's body -/
abbrev z_X : Type := Program × Launch × Env × Room × State × MethodId × Array Value × List Frame × Method × Code × (State → Prop) × va_G × (Nat → Nat) × (ClassId × ClassId × ClassId) × Nat × Nat × Nat
def zA (X : z_X) : Nat → Nat := X.2.2.2.2.2.2.2.2.2.2.2.2.1
def zL (X : z_X) : Launch := X.2.1
def G (X : z_X) (M : zM) (pc : Nat) (lv : List (Option Value)) (st : List Value) : Prop := match X with
  | (p, l, e, R, s, m, args, below, meth, c, Q, D, ad, (cI, cJ, cO), lo, cs, sl) => ∀ (H : Heap) (locs : List Loc) (ls : Array Slot), va_P D vwCl (z_w ad cI cJ cO M) H → va_S (fun q => lo ≤ q) s.heap H locs → lv_has ls lv.length (z_al 0 lv) → W p l e R s m args below meth c H locs cs sl Q (F0 m pc ls st)
def Cx (cc : ByteArray) (own : String) (ret : Option FieldType) (d n : Nat) (X : z_X) : Prop := match X with
  | (p, l, e, R, s, m, args, below, meth, c, Q, D, ad, (cI, cJ, cO), lo, cs, sl) => p.tables.exec = Jvm.exec ∧ c.code = cc ∧ meth.sig.returnType = ret ∧ c.maxLocals = n ∧ s.vm.findClass own = some m.cls ∧ (∀ w ∈ tT, w.before args s = true) ∧ va_K D vwCl (z_tys cI cJ cO) s ∧ z_N s ∧ (∀ M, va_D (fun q => lo ≤ q) (z_w ad cI cJ cO M)) ∧ meth.locks = false ∧ (d ≤ R.frames ∧ 40 * d ≤ R.locals) ∧ (cs ≤ R.cells ∧ sl ≤ R.slots)
/-- what a contract says of the end -/
def z_Q (D : va_G) (ad : Nat → Nat) (cI cJ cO : ClassId) (lo : Nat) (post : Option Value → zM → Prop) : Array Value → State → Outcome → State → Prop := fun _ st o t => (∃ (v : Option Value) (M' : zM), o = .returned v ∧ post v M' ∧ va_P D vwCl (z_w ad cI cJ cO M') t.heap) ∧ va_F (fun q => lo ≤ q) st t
def Rx (post : (Nat → Nat) → Option Value → zM → Prop) (X : z_X) : Prop := match X with
  | (p, l, e, R, s, m, args, below, meth, c, Q, D, ad, (cI, cJ, cO), lo, cs, sl) => Q = MQ below (z_Q D ad cI cJ cO lo (post ad)) args s cs sl (fun q => lo ≤ q)
def z_B (D : va_G) (ad : Nat → Nat) (cI cJ cO : ClassId) (lo : Nat) (M : zM) (U : State) : Prop := va_P D vwCl (z_w ad cI cJ cO M) U.heap ∧ va_K D vwCl (z_tys cI cJ cO) U ∧ z_N U ∧ ∀ M', va_D (fun q => lo ≤ q) (z_w ad cI cJ cO M')
abbrev z_room (d : Nat) : Room := { frames := d, cells := 0, slots := 0, locals := 40 * d }
/-- a contract: from every heap with the table M, called with these words, it returns, and post holds of the answer and the table -/
def Mt (l : Launch) (d : Nat) (y : MethodName) (cc : ByteArray) (n : Nat) (ret : Option FieldType) (As : (Nat → Nat) → List Value) (M : zM) (post : (Nat → Nat) → Option Value → zM → Prop) : Prop :=
  ∀ (D : va_G) (ad : Nat → Nat) (cI cJ cO : ClassId) (lo : Nat), Met l y (tW y cc n ret) (z_room d) (va_Pc (As ad) (z_B D ad cI cJ cO lo M)) (z_Q D ad cI cJ cO lo (post ad)) 0 0 (fun q => lo ≤ q)
/-- a contract out of a walk, also of a method of the JDK's that no row of the natives stands in for -/
theorem z_ofW {l : Launch} {y : MethodName} {ws ws' : List Cond} {rm : Room} {Pc : Array Value → State → Prop} {Qc : Array Value → State → Outcome → State → Prop} {mc ms : Nat} {free : Addr → Prop} {cc : ByteArray} {maxL : Nat} {ret : Option FieldType}
    (hy : plainFor y = true) (hw : ws = Cond.code y cc maxL ret :: ws')
    (body : ∀ p e s m args below meth c s₁, BodyLoose p l y (headSpec ws rm) cc maxL ret e s m args below meth c s₁ → c.maxLocals = maxL → Pc args s →
      W p l e (headSpec ws rm).room s m args below meth c s.heap [] 0 0 (MQ below Qc args s mc ms free) (entryFrame m args maxL)) : Met l y ws rm Pc Qc mc ms free := by
  refine MetFree.of_bodyRF (code := cc) (maxLocals := maxL) (ret := ret) hy ?_ ?_
  · intro args s m h hn
    obtain ⟨meth, c, h1, h2, h3, h4, h5, h6, -, -⟩ := Cond.code_spec hn (atoms_spec (ws := ws) h _ (by rw [hw]; exact List.mem_cons_self))
    exact ⟨meth, c, h1, h2, h3, h4, h5, h6⟩
  · intro p e s m args below meth c s₁ B hml hP _ hst
    have hh0 : s₁.heap = s.heap := by rw [B.state]; rfl
    obtain ⟨t, a1, o, b1, b2, b3⟩ := body p e s m args below meth c s₁ B hml hP s₁ hh0 (Stand.of_body B)
    exact ⟨t, o, Steps.trans hst a1, b1, b2, ⟨b3.1, b3.2⟩⟩
theorem Mt.of {l : Launch} {d : Nat} {y : MethodName} {cc : ByteArray} {n : Nat} {ret : Option FieldType} {As : (Nat → Nat) → List Value} {M : zM} {post : (Nat → Nat) → Option Value → zM → Prop} (lv0 : (Nat → Nat) → List (Option Value))
    (hy : plainFor y = true) (h1 : ∀ ad, z_al 0 (lv0 ad) = lv_args 0 (As ad)) (h2 : ∀ ad, (lv0 ad).length = n) (h3 : ∀ ad, (lg_sl (As ad)).length ≤ n)
    (body : ∀ X : z_X, zL X = l → Cx cc y.cls ret d n X → Rx post X → G X M 0 (lv0 (zA X)) []) : Mt l d y cc n ret As M post := by
  intro D ad cI cJ cO lo
  refine z_ofW (cc := cc) (maxL := n) (ret := ret) hy rfl ?_
  intro p e s m args below meth c s₁ B hml hv
  obtain ⟨rfl, hP, hK, hN, hD⟩ := hv
  have hts : ∀ w ∈ tT, w.before (As ad).toArray s = true := fun w hw => atoms_spec (ws := tW y cc n ret) B.pre w (List.mem_cons_of_mem _ hw)
  have h := body (p, l, e, z_room d, s, m, (As ad).toArray, below, meth, c, MQ below (z_Q D ad cI cJ cO lo (post ad)) (As ad).toArray s 0 0 (fun q => lo ≤ q), D, ad, (cI, cJ, cO), lo, 0, 0) rfl
    ⟨B.exec, B.bytes, B.returns, hml, findClass_of_methodNamed B.named, hts, hK, hN, hD, B.notSynchronized, ⟨Nat.le_refl _, Nat.le_refl _⟩, ⟨Nat.le_refl _, Nat.le_refl _⟩⟩ rfl
  rw [lg_entry_eq]
  refine h s.heap [] _ hP va_S.rf ?_
  show lv_has _ (lv0 ad).length (z_al 0 (lv0 ad))
  rw [h1, h2]
  exact lv_entry (As ad) (h3 ad)
section
variable {X : z_X} {cc : ByteArray} {own : String} {ret : Option FieldType} {d n : Nat} {M : zM} {pc : Nat} {lv : List (Option Value)} {st : List Value}
/-! locals, constants, the stack -/
theorem g_iload (C : Cx cc own ret d n X) {k : Nat} {x : Int32} (hd : decode cc pc = .ok (.iload k, 2)) (hv : lv[k]? = some (some (.int x))) (kk : G X M (pc + 2) lv (.int x :: st)) : G X M pc lv st := by
  obtain ⟨p, l, e, R, s, m, args, below, meth, c, Q, D, ad, ⟨cI, cJ, cO⟩, lo, cs, sl⟩ := X
  obtain ⟨hx, hb, -⟩ := C
  exact fun H locs ls hP hS hl => lv_iload hx hb hd (zal_get hl hv) (kk H locs ls hP hS hl)
theorem g_iload_n (C : Cx cc own ret d n X) {k : Fin 4} {x : Int32} (hd : decode cc pc = .ok (.iload_n k, 1)) (hv : lv[(k : Nat)]? = some (some (.int x))) (kk : G X M (pc + 1) lv (.int x :: st)) : G X M pc lv st := by
  obtain ⟨p, l, e, R, s, m, args, below, meth, c, Q, D, ad, ⟨cI, cJ, cO⟩, lo, cs, sl⟩ := X
  obtain ⟨hx, hb, -⟩ := C
  exact fun H locs ls hP hS hl => lv_iload_n hx hb hd rfl (zal_get hl hv) (kk H locs ls hP hS hl)
theorem g_lload (C : Cx cc own ret d n X) {k : Nat} {x : Int64} (hd : decode cc pc = .ok (.lload k, 2)) (hv : lv[k]? = some (some (.long x))) (kk : G X M (pc + 2) lv (.long x :: st)) : G X M pc lv st := by
  obtain ⟨p, l, e, R, s, m, args, below, meth, c, Q, D, ad, ⟨cI, cJ, cO⟩, lo, cs, sl⟩ := X
  obtain ⟨hx, hb, -⟩ := C
  exact fun H locs ls hP hS hl => lv_lload hx hb hd (zal_get hl hv) (kk H locs ls hP hS hl)
theorem g_lload_n (C : Cx cc own ret d n X) {k : Fin 4} {x : Int64} (hd : decode cc pc = .ok (.lload_n k, 1)) (hv : lv[(k : Nat)]? = some (some (.long x))) (kk : G X M (pc + 1) lv (.long x :: st)) : G X M pc lv st := by
  obtain ⟨p, l, e, R, s, m, args, below, meth, c, Q, D, ad, ⟨cI, cJ, cO⟩, lo, cs, sl⟩ := X
  obtain ⟨hx, hb, -⟩ := C
  exact fun H locs ls hP hS hl => lv_lload_n hx hb hd rfl (zal_get hl hv) (kk H locs ls hP hS hl)
theorem g_aload (C : Cx cc own ret d n X) {k : Nat} {x : Nat} (hd : decode cc pc = .ok (.aload k, 2)) (hv : lv[k]? = some (some (.ref x))) (kk : G X M (pc + 2) lv (.ref x :: st)) : G X M pc lv st := by
  obtain ⟨p, l, e, R, s, m, args, below, meth, c, Q, D, ad, ⟨cI, cJ, cO⟩, lo, cs, sl⟩ := X
  obtain ⟨hx, hb, -⟩ := C
  exact fun H locs ls hP hS hl => lv_aload hx hb hd (zal_get hl hv) (kk H locs ls hP hS hl)
theorem g_aload_n (C : Cx cc own ret d n X) {k : Fin 4} {x : Nat} (hd : decode cc pc = .ok (.aload_n k, 1)) (hv : lv[(k : Nat)]? = some (some (.ref x))) (kk : G X M (pc + 1) lv (.ref x :: st)) : G X M pc lv st := by
  obtain ⟨p, l, e, R, s, m, args, below, meth, c, Q, D, ad, ⟨cI, cJ, cO⟩, lo, cs, sl⟩ := X
  obtain ⟨hx, hb, -⟩ := C
  exact fun H locs ls hP hS hl => lv_aload_n hx hb hd rfl (zal_get hl hv) (kk H locs ls hP hS hl)
theorem g_istore (C : Cx cc own ret d n X) {k : Nat} {x : Int32} (hd : decode cc pc = .ok (.istore k, 2)) (hk : k < lv.length) (kk : G X M (pc + 2) (z_st lv k (.int x)) st) : G X M pc lv (.int x :: st) := by
  obtain ⟨p, l, e, R, s, m, args, below, meth, c, Q, D, ad, ⟨cI, cJ, cO⟩, lo, cs, sl⟩ := X
  obtain ⟨hx, hb, -⟩ := C
  exact fun H locs ls hP hS hl => lv_istore hx hb hd hl hk rfl fun ls' hl' => kk H locs ls' hP hS (by rw [zst_len]; exact zst_has hl')
theorem g_istore_n (C : Cx cc own ret d n X) {k : Fin 4} {x : Int32} (hd : decode cc pc = .ok (.istore_n k, 1)) (hk : (k : Nat) < lv.length) (kk : G X M (pc + 1) (z_st lv k (.int x)) st) : G X M pc lv (.int x :: st) := by
  obtain ⟨p, l, e, R, s, m, args, below, meth, c, Q, D, ad, ⟨cI, cJ, cO⟩, lo, cs, sl⟩ := X
  obtain ⟨hx, hb, -⟩ := C
  exact fun H locs ls hP hS hl => lv_istore_n hx hb hd rfl hl hk rfl fun ls' hl' => kk H locs ls' hP hS (by rw [zst_len]; exact zst_has hl')
theorem g_astore (C : Cx cc own ret d n X) {k : Nat} {x : Nat} (hd : decode cc pc = .ok (.astore k, 2)) (hk : k < lv.length) (kk : G X M (pc + 2) (z_st lv k (.ref x)) st) : G X M pc lv (.ref x :: st) := by
  obtain ⟨p, l, e, R, s, m, args, below, meth, c, Q, D, ad, ⟨cI, cJ, cO⟩, lo, cs, sl⟩ := X
  obtain ⟨hx, hb, -⟩ := C
  exact fun H locs ls hP hS hl => lv_astore hx hb hd hl hk rfl fun ls' hl' => kk H locs ls' hP hS (by rw [zst_len]; exact zst_has hl')
theorem g_astore_n (C : Cx cc own ret d n X) {k : Fin 4} {x : Nat} (hd : decode cc pc = .ok (.astore_n k, 1)) (hk : (k : Nat) < lv.length) (kk : G X M (pc + 1) (z_st lv k (.ref x)) st) : G X M pc lv (.ref x :: st) := by
  obtain ⟨p, l, e, R, s, m, args, below, meth, c, Q, D, ad, ⟨cI, cJ, cO⟩, lo, cs, sl⟩ := X
  obtain ⟨hx, hb, -⟩ := C
  exact fun H locs ls hP hS hl => lv_astore_n hx hb hd rfl hl hk rfl fun ls' hl' => kk H locs ls' hP hS (by rw [zst_len]; exact zst_has hl')
theorem g_lstore (C : Cx cc own ret d n X) {k : Nat} {x : Int64} (hd : decode cc pc = .ok (.lstore k, 2)) (hk : k + 1 < lv.length) (kk : G X M (pc + 2) (z_st2 lv k (.long x)) st) : G X M pc lv (.long x :: st) := by
  obtain ⟨p, l, e, R, s, m, args, below, meth, c, Q, D, ad, ⟨cI, cJ, cO⟩, lo, cs, sl⟩ := X
  obtain ⟨hx, hb, -⟩ := C
  exact fun H locs ls hP hS hl => lv_lstore hx hb hd hl hk rfl fun ls' hl' => kk H locs ls' hP hS (by rw [zst2_len]; exact zst2_has hl')
theorem g_lstore_n (C : Cx cc own ret d n X) {k : Fin 4} {x : Int64} (hd : decode cc pc = .ok (.lstore_n k, 1)) (hk : (k : Nat) + 1 < lv.length) (kk : G X M (pc + 1) (z_st2 lv k (.long x)) st) : G X M pc lv (.long x :: st) := by
  obtain ⟨p, l, e, R, s, m, args, below, meth, c, Q, D, ad, ⟨cI, cJ, cO⟩, lo, cs, sl⟩ := X
  obtain ⟨hx, hb, -⟩ := C
  exact fun H locs ls hP hS hl => lv_lstore_n hx hb hd rfl hl hk rfl fun ls' hl' => kk H locs ls' hP hS (by rw [zst2_len]; exact zst2_has hl')
theorem g_mask (bs : List Bool) (hb : bs.length = lv.length) (kk : G X M pc (z_mk bs lv) st) : G X M pc lv st := by
  obtain ⟨p, l, e, R, s, m, args, below, meth, c, Q, D, ad, ⟨cI, cJ, cO⟩, lo, cs, sl⟩ := X
  exact fun H locs ls hP hS hl => kk H locs ls hP hS (by rw [zmk_len bs lv hb]; exact zmk_has bs hl)
theorem g_iconst (C : Cx cc own ret d n X) {x : Int} (hd : decode cc pc = .ok (.iconst x, 1)) (kk : G X M (pc + 1) lv (.int (jI x) :: st)) : G X M pc lv st := by
  obtain ⟨p, l, e, R, s, m, args, below, meth, c, Q, D, ad, ⟨cI, cJ, cO⟩, lo, cs, sl⟩ := X
  obtain ⟨hx, hb, -⟩ := C
  exact fun H locs ls hP hS hl => lv_iconst hx hb hd rfl (kk H locs ls hP hS hl)
theorem g_bipush (C : Cx cc own ret d n X) {x : Int} (hd : decode cc pc = .ok (.bipush x, 2)) (hx : (Int8.ofInt x).toInt32 = jI x) (kk : G X M (pc + 2) lv (.int (jI x) :: st)) : G X M pc lv st := by
  obtain ⟨p, l, e, R, s, m, args, below, meth, c, Q, D, ad, ⟨cI, cJ, cO⟩, lo, cs, sl⟩ := X
  obtain ⟨hx', hb, -⟩ := C
  exact fun H locs ls hP hS hl => lv_bipush hx' hb hd hx (kk H locs ls hP hS hl)
theorem g_sipush (C : Cx cc own ret d n X) {x : Int} (hd : decode cc pc = .ok (.sipush x, 3)) (hx : (Int16.ofInt x).toInt32 = jI x) (kk : G X M (pc + 3) lv (.int (jI x) :: st)) : G X M pc lv st := by
  obtain ⟨p, l, e, R, s, m, args, below, meth, c, Q, D, ad, ⟨cI, cJ, cO⟩, lo, cs, sl⟩ := X
  obtain ⟨hx', hb, -⟩ := C
  exact fun H locs ls hP hS hl => lv_sipush hx' hb hd hx (kk H locs ls hP hS hl)
theorem g_dup (C : Cx cc own ret d n X) {v : Value} (hd : decode cc pc = .ok (.dup, 1)) (hv : v.category = 1) (kk : G X M (pc + 1) lv (v :: v :: st)) : G X M pc lv (v :: st) := by
  obtain ⟨p, l, e, R, s, m, args, below, meth, c, Q, D, ad, ⟨cI, cJ, cO⟩, lo, cs, sl⟩ := X
  obtain ⟨hx, hb, -⟩ := C
  exact fun H locs ls hP hS hl => lv_dup hx hb hd hv (kk H locs ls hP hS hl)
theorem g_pop (C : Cx cc own ret d n X) {v : Value} (hd : decode cc pc = .ok (.pop, 1)) (hv : v.category = 1) (kk : G X M (pc + 1) lv st) : G X M pc lv (v :: st) := by
  obtain ⟨p, l, e, R, s, m, args, below, meth, c, Q, D, ad, ⟨cI, cJ, cO⟩, lo, cs, sl⟩ := X
  obtain ⟨hx, hb, -⟩ := C
  exact fun H locs ls hP hS hl => lv_pop hx hb hd hv (kk H locs ls hP hS hl)
theorem g_dup2 (C : Cx cc own ret d n X) {v w : Value} (hd : decode cc pc = .ok (.dup2, 1)) (hv : v.category = 1) (hw : w.category = 1) (kk : G X M (pc + 1) lv (v :: w :: v :: w :: st)) : G X M pc lv (v :: w :: st) := by
  obtain ⟨p, l, e, R, s, m, args, below, meth, c, Q, D, ad, ⟨cI, cJ, cO⟩, lo, cs, sl⟩ := X
  obtain ⟨hx, hb, -⟩ := C
  exact fun H locs ls hP hS hl => lv_dup2_11 hx hb hd hv hw (kk H locs ls hP hS hl)
theorem g_goto (C : Cx cc own ret d n X) {off : Int} {tgt : Nat} (hd : decode cc pc = .ok (.goto off, 3)) (ht : (pc : Int) + off = (tgt : Int)) (kk : G X M tgt lv st) : G X M pc lv st := by
  obtain ⟨p, l, e, R, s, m, args, below, meth, c, Q, D, ad, ⟨cI, cJ, cO⟩, lo, cs, sl⟩ := X
  obtain ⟨hx, hb, -⟩ := C
  exact fun H locs ls hP hS hl => lv_goto hx hb hd ht (kk H locs ls hP hS hl)
end
