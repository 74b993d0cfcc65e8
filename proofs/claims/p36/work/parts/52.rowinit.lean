/-! the constructors' contracts -/
def Kt (l : Launch) (d : Nat) (y : MethodName) (cc : ByteArray) (n ci : Nat) (fs0 : List Value) (mc ms : Nat) (out : ClassId × ClassId × ClassId → Nat → (Nat → Nat) → va_W) : Prop :=
  ∀ (D : va_G) (cI cJ cO : ClassId) (lo : Nat) (w : va_W) (a : Nat), Met l y (tW y cc n none) { frames := d, cells := mc, slots := ms, locals := 40 * d } (va_Pc [.ref a] (fun U => va_P D vwCl (w ++ [(a, .inr (ci, fs0))]) U.heap ∧ va_K D vwCl (z_tys cI cJ cO) U ∧ z_NI U ∧ va_D (fun q => lo ≤ q) (w ++ [(a, .inr (ci, fs0))]) ∧ lo ≤ U.heap.size))
    (fun _ st o t => (o = .returned none ∧ ∃ as : Nat → Nat, va_P D vwCl (w ++ out (cI, cJ, cO) a as) t.heap ∧ va_D (fun q => lo ≤ q) (w ++ out (cI, cJ, cO) a as)) ∧ va_F (fun q => lo ≤ q) st t) mc ms (fun q => lo ≤ q)
/-- a constructor's return rule -/
def Rw (w : va_W) (a : Nat) (out : ClassId × ClassId × ClassId → Nat → (Nat → Nat) → va_W) (X : z_X) : Prop := match X with
  | (p, l, e, R, s, m, args, below, meth, c, Q, D, ad, (cI, cJ, cO), lo, cs, sl) => Q = MQ below (fun _ st o t => (o = .returned none ∧ ∃ as : Nat → Nat, va_P D vwCl (w ++ out (cI, cJ, cO) a as) t.heap ∧ va_D (fun q => lo ≤ q) (w ++ out (cI, cJ, cO) a as)) ∧ va_F (fun q => lo ≤ q) st t) args s cs sl (fun q => lo ≤ q)
theorem Kt.of {l : Launch} {d : Nat} {y : MethodName} {cc : ByteArray} {n ci : Nat} {fs0 : List Value} {mc ms : Nat} {out : ClassId × ClassId × ClassId → Nat → (Nat → Nat) → va_W} (hy : plainFor y = true) (hn : y.name = "<init>") (h1 : 1 ≤ n)
    (body : ∀ (X : z_X) (w : va_W) (a : Nat), zL X = l → zcs X = mc → zsl X = ms → Cw cc y.cls d n X → Rw w a out X → Gw X (w ++ [(a, .inr (ci, fs0))]) 0 0 0 (some (.ref a) :: List.replicate (n - 1) none) []) : Kt l d y cc n ci fs0 mc ms out := by
  intro D cI cJ cO lo w a
  refine z_ofW (cc := cc) (maxL := n) (ret := none) hy rfl ?_
  intro p e s m args below meth c s₁ B hml hv
  obtain ⟨rfl, hP, hK, hN, hD, hlo⟩ := hv
  have hts : ∀ w ∈ tT, w.before ([Value.ref a] : List Value).toArray s = true := fun w hw => atoms_spec (ws := tW y cc n none) B.pre w (List.mem_cons_of_mem _ hw)
  have h := body (p, l, e, { frames := d, cells := mc, slots := ms, locals := 40 * d }, s, m, ([Value.ref a] : List Value).toArray, below, meth, c, MQ below (fun _ st o t => (o = .returned none ∧ ∃ as : Nat → Nat, va_P D vwCl (w ++ out (cI, cJ, cO) a as) t.heap ∧ va_D (fun q => lo ≤ q) (w ++ out (cI, cJ, cO) a as)) ∧ va_F (fun q => lo ≤ q) st t) ([Value.ref a] : List Value).toArray s mc ms (fun q => lo ≤ q), D, (fun x => x), (cI, cJ, cO), lo, mc, ms) w a rfl rfl rfl
    ⟨B.exec, B.bytes, B.returns, hml, findClass_of_methodNamed B.named, hts, hK, hN, hlo, B.notSynchronized, (name_of_methodNamed B.named B.method).1.trans hn, ⟨Nat.le_refl _, Nat.le_refl _⟩, ⟨Nat.le_refl _, Nat.le_refl _⟩⟩ rfl
  rw [lg_entry_eq]
  refine h s.heap [] _ hP hD va_S.rf ?_
  show lv_has _ (some (Value.ref a) :: List.replicate (n - 1) none).length (z_al 0 (some (Value.ref a) :: List.replicate (n - 1) none))
  have e1 : z_al 0 (some (Value.ref a) :: List.replicate (n - 1) none) = lv_args 0 [Value.ref a] := by
    have : ∀ (k j : Nat), z_al j (List.replicate k none) = [] := fun k => by
      induction k with
      | zero => intro j; rfl
      | succ k ih => intro j; rw [List.replicate_succ, z_al, ih]
    rw [z_al, this]; rfl
  rw [e1, List.length_cons, List.length_replicate, show n - 1 + 1 = n by omega]
  exact lv_entry [Value.ref a] (by rw [show (lg_sl [Value.ref a]).length = 1 from rfl]; exact h1)
theorem h_vret {X : z_X} {cc : ByteArray} {own : String} {d n : Nat} {w tl : va_W} {a : Nat} {pc : Nat} {lv : List (Option Value)} {out : ClassId × ClassId × ClassId → Nat → (Nat → Nat) → va_W} (C : Cw cc own d n X) (hR : Rw w a out X) (as : Nat → Nat) (ho : out (zC X) a as = tl) (hd : decode cc pc = .ok (.return_, 1)) : Gw X (w ++ tl) (zcs X) (zsl X) pc lv [] := by
  obtain ⟨p, l, e, R, s, m, args, below, meth, c, Q, D, ad, ⟨cI, cJ, cO⟩, lo, cs, sl⟩ := X
  obtain ⟨hx, hb, hr, hml, hown, hts, hK, hN', hlo, hlk, hin, hR', hR3⟩ := C
  have hR : Q = MQ below _ args s cs sl (fun q => lo ≤ q) := hR
  subst hR
  have ho : out (cI, cJ, cO) a as = tl := ho
  exact fun H locs ls hP hD hS hl => W.vret hx hb hr (fun t ht _ => ⟨⟨rfl, as, by rw [ht, ho]; exact hP, by rw [ho]; exact hD⟩, hS.F ht⟩) hS.2.2 hd hlk
/-- a row as its constructor leaves it -/
def oRow (C : ClassId × ClassId × ClassId) (a : Nat) (as : Nat → Nat) : va_W := [(a, .inr (5, [.ref (as 0), .ref (as 1), .int (jI 0)])), (as 0, .inl (C.1, 120, .inl (fun _ => jI 0))), (as 1, .inl (C.1, 120, .inl (fun _ => jI 0)))]
theorem k_row (l : Launch) : Kt l 1 yX5_init cX5_init 1 5 [.null, .null, .int (jI 0)] 2 240 oRow := by
  refine Kt.of (by decide +kernel) rfl (Nat.le_refl _) fun X w a hX hc hs C hR => ?_
  refine h_aload_n C dX5_init_0 rfl ?_
  refine h_obj C (by decide) (tT_i (i := 144) (by decide +kernel) (by decide +kernel)) rfl (Nat.le_of_ble_eq_true rfl) dX5_init_1 ?_
  refine h_aload_n C dX5_init_4 rfl ?_
  refine h_bipush C dX5_init_5 rfl ?_
  refine h_newI (N := 120) C (by decide) (by omega) (by omega) dX5_init_7 fun q1 => ?_
  refine h_putF C 0 (k := 0) rfl rfl uw_X5 tyX5_ok nmX5 (by decide) tw_145 rfl rfl rfl rfl rfl (Nat.le_of_ble_eq_true rfl) dX5_init_9 ?_
  refine h_aload_n C dX5_init_12 rfl ?_
  refine h_bipush C dX5_init_13 rfl ?_
  refine h_newI (N := 120) C (by decide) (by omega) (by omega) dX5_init_15 fun q2 => ?_
  refine h_putF C 0 (k := 1) rfl rfl uw_X5 tyX5_ok nmX5 (by decide) tw_146 rfl rfl rfl rfl rfl (Nat.le_of_ble_eq_true rfl) dX5_init_17 ?_
  refine h_aload_n C dX5_init_20 rfl ?_
  refine h_iconst C dX5_init_21 ?_
  refine h_put C 0 (k := 2) rfl rfl uw_X5 tyX5_ok nmX5 (by decide) tw_147 rfl rfl rfl rfl (Nat.le_of_ble_eq_true rfl) dX5_init_22 ?_
  have := h_vret (tl := oRow (zC X) a (fun i => if i = 0 then q1 else q2)) C hR (fun i => if i = 0 then q1 else q2) rfl dX5_init_25 (lv := [some (.ref a)])
  rw [hc, hs] at this
  exact this
