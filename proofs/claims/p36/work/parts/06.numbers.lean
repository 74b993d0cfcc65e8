/-! numbers: every int of the walk is jI of an integer -/
theorem jI_add (x y : Int) : jI x + jI y = jI (x + y) := (Int32.ofInt_add x y).symm
theorem jI_sub (x y : Int) : jI x - jI y = jI (x - y) := (Int32.ofInt_sub x y).symm
theorem jI_mul (x y : Int) : jI x * jI y = jI (x * y) := (Int32.ofInt_mul x y).symm
theorem jI_neg (x : Int) : - jI x = jI (-x) := (Int32.ofInt_neg x).symm
theorem jI_t {x : Int} (h : -2147483648 ≤ x ∧ x ≤ 2147483647) : (jI x).toInt = x := Int32.toInt_ofInt_of_le (by omega) (by omega)
theorem jI_of (x : Int32) : jI x.toInt = x := Int32.ofInt_toInt x
theorem jI_n (a : Nat) : jI (a : Int) = nI a := Int32.ofInt_eq_ofNat
theorem jI_lt {x y : Int} (hx : -2147483648 ≤ x ∧ x ≤ 2147483647) (hy : -2147483648 ≤ y ∧ y ≤ 2147483647) : jI x < jI y ↔ x < y := by rw [Int32.lt_iff_toInt_lt, jI_t hx, jI_t hy]
theorem jI_le {x y : Int} (hx : -2147483648 ≤ x ∧ x ≤ 2147483647) (hy : -2147483648 ≤ y ∧ y ≤ 2147483647) : jI x ≤ jI y ↔ x ≤ y := by rw [Int32.le_iff_toInt_le, jI_t hx, jI_t hy]
theorem jI_eq {x y : Int} (hx : -2147483648 ≤ x ∧ x ≤ 2147483647) (hy : -2147483648 ≤ y ∧ y ≤ 2147483647) : jI x = jI y ↔ x = y := by rw [← Int32.toInt_inj, jI_t hx, jI_t hy]
theorem jI_0 : jI 0 = 0 := rfl
theorem jI_div {x y : Int} (hx : 0 ≤ x ∧ x ≤ 2147483647) (hy : 0 < y ∧ y ≤ 2147483647) : jI x / jI y = jI (x / y) := by
  obtain ⟨a, rfl⟩ := Int.eq_ofNat_of_zero_le hx.1
  obtain ⟨b, rfl⟩ := Int.eq_ofNat_of_zero_le (show 0 ≤ y by omega)
  rw [jI_n, jI_n, pk_div (by omega) (by omega) (by omega), ← jI_n]; rfl
theorem jI_rem {x y : Int} (hx : 0 ≤ x ∧ x ≤ 2147483647) (hy : 0 < y ∧ y ≤ 2147483647) : jI x - jI x / jI y * jI y = jI (x % y) := by
  obtain ⟨a, rfl⟩ := Int.eq_ofNat_of_zero_le hx.1
  obtain ⟨b, rfl⟩ := Int.eq_ofNat_of_zero_le (show 0 ≤ y by omega)
  rw [jI_n, jI_n, pk_rem (by omega) (by omega) (by omega), ← jI_n]; rfl
theorem jI_ne0 {y : Int} (hy : -2147483648 ≤ y ∧ y ≤ 2147483647) (h : y ≠ 0) : ¬ jI y = 0 := fun q => h ((jI_eq hy (by omega)).mp (q.trans jI_0.symm))
theorem jI_in {i N : Nat} (h : i < N) (hN : N < 2 ^ 31) : vp_in (jI (i : Int)) N := by rw [jI_n]; exact vp_in_nI h hN
theorem jI_cl {i : Nat} (h : i < 2 ^ 31) : (jI (i : Int)).toNatClampNeg = i := by rw [jI_n]; exact nI_clamp h
theorem jL_t {x : Int} (h : -9223372036854775808 ≤ x ∧ x ≤ 9223372036854775807) : (jL x).toInt = x := Int64.toInt_ofInt_of_le (by omega) (by omega)
theorem jL_of (x : Int64) : jL x.toInt = x := Int64.ofInt_toInt x
theorem jI_l {x : Int} (h : -2147483648 ≤ x ∧ x ≤ 2147483647) : (jI x).toInt64 = jL x := by
  rw [← Int64.toInt_inj, Int32.toInt_toInt64, jI_t h, jL_t (by omega)]
section
variable {X : z_X} {cc : ByteArray} {own : String} {ret : Option FieldType} {d n : Nat} {M : zM} {pc : Nat} {lv : List (Option Value)} {st : List Value}
theorem g_iadd (C : Cx cc own ret d n X) {x y : Int} (hd : decode cc pc = .ok (.iadd, 1)) (kk : G X M (pc + 1) lv (.int (jI (x + y)) :: st)) : G X M pc lv (.int (jI y) :: .int (jI x) :: st) := by
  obtain ⟨p, l, e, R, s, m, args, below, meth, c, Q, D, ad, ⟨cI, cJ, cO⟩, lo, cs, sl⟩ := X
  obtain ⟨hx, hb, -⟩ := C
  exact fun H locs ls hP hS hl => lv_iadd hx hb hd (by rw [jI_add]; exact kk H locs ls hP hS hl)
theorem g_isub (C : Cx cc own ret d n X) {x y : Int} (hd : decode cc pc = .ok (.isub, 1)) (kk : G X M (pc + 1) lv (.int (jI (x - y)) :: st)) : G X M pc lv (.int (jI y) :: .int (jI x) :: st) := by
  obtain ⟨p, l, e, R, s, m, args, below, meth, c, Q, D, ad, ⟨cI, cJ, cO⟩, lo, cs, sl⟩ := X
  obtain ⟨hx, hb, -⟩ := C
  exact fun H locs ls hP hS hl => lv_isub hx hb hd (by rw [jI_sub]; exact kk H locs ls hP hS hl)
theorem g_imul (C : Cx cc own ret d n X) {x y : Int} (hd : decode cc pc = .ok (.imul, 1)) (kk : G X M (pc + 1) lv (.int (jI (x * y)) :: st)) : G X M pc lv (.int (jI y) :: .int (jI x) :: st) := by
  obtain ⟨p, l, e, R, s, m, args, below, meth, c, Q, D, ad, ⟨cI, cJ, cO⟩, lo, cs, sl⟩ := X
  obtain ⟨hx, hb, -⟩ := C
  exact fun H locs ls hP hS hl => lv_imul hx hb hd (by rw [jI_mul]; exact kk H locs ls hP hS hl)
theorem g_ineg (C : Cx cc own ret d n X) {x : Int} (hd : decode cc pc = .ok (.ineg, 1)) (kk : G X M (pc + 1) lv (.int (jI (-x)) :: st)) : G X M pc lv (.int (jI x) :: st) := by
  obtain ⟨p, l, e, R, s, m, args, below, meth, c, Q, D, ad, ⟨cI, cJ, cO⟩, lo, cs, sl⟩ := X
  obtain ⟨hx, hb, -⟩ := C
  exact fun H locs ls hP hS hl => lv_ineg hx hb hd (by rw [jI_neg]; exact kk H locs ls hP hS hl)
theorem g_idiv (C : Cx cc own ret d n X) {x y : Int} (hd : decode cc pc = .ok (.idiv, 1)) (hX : 0 ≤ x ∧ x ≤ 2147483647) (hY : 0 < y ∧ y ≤ 2147483647) (kk : G X M (pc + 1) lv (.int (jI (x / y)) :: st)) : G X M pc lv (.int (jI y) :: .int (jI x) :: st) := by
  obtain ⟨p, l, e, R, s, m, args, below, meth, c, Q, D, ad, ⟨cI, cJ, cO⟩, lo, cs, sl⟩ := X
  obtain ⟨hx, hb, -⟩ := C
  exact fun H locs ls hP hS hl => lv_idiv hx hb hd (jI_ne0 (by omega) (by omega)) (by rw [jI_div hX hY]; exact kk H locs ls hP hS hl)
theorem g_irem (C : Cx cc own ret d n X) {x y : Int} (hd : decode cc pc = .ok (.irem, 1)) (hX : 0 ≤ x ∧ x ≤ 2147483647) (hY : 0 < y ∧ y ≤ 2147483647) (kk : G X M (pc + 1) lv (.int (jI (x % y)) :: st)) : G X M pc lv (.int (jI y) :: .int (jI x) :: st) := by
  obtain ⟨p, l, e, R, s, m, args, below, meth, c, Q, D, ad, ⟨cI, cJ, cO⟩, lo, cs, sl⟩ := X
  obtain ⟨hx, hb, -⟩ := C
  exact fun H locs ls hP hS hl => lv_irem hx hb hd (jI_ne0 (by omega) (by omega)) (by rw [jI_rem hX hY]; exact kk H locs ls hP hS hl)
theorem g_iremR (C : Cx cc own ret d n X) {x y : Int32} (hd : decode cc pc = .ok (.irem, 1)) (hY : ¬ y = 0) (kk : G X M (pc + 1) lv (.int (x - x / y * y) :: st)) : G X M pc lv (.int y :: .int x :: st) := by
  obtain ⟨p, l, e, R, s, m, args, below, meth, c, Q, D, ad, ⟨cI, cJ, cO⟩, lo, cs, sl⟩ := X
  obtain ⟨hx, hb, -⟩ := C
  exact fun H locs ls hP hS hl => lv_irem hx hb hd hY (kk H locs ls hP hS hl)
theorem g_iand (C : Cx cc own ret d n X) {x y : Int32} (hd : decode cc pc = .ok (.iand, 1)) (kk : G X M (pc + 1) lv (.int (x &&& y) :: st)) : G X M pc lv (.int y :: .int x :: st) := by
  obtain ⟨p, l, e, R, s, m, args, below, meth, c, Q, D, ad, ⟨cI, cJ, cO⟩, lo, cs, sl⟩ := X
  obtain ⟨hx, hb, -⟩ := C
  exact fun H locs ls hP hS hl => lv_iand hx hb hd (kk H locs ls hP hS hl)
theorem g_ixor (C : Cx cc own ret d n X) {x y : Int32} (hd : decode cc pc = .ok (.ixor, 1)) (kk : G X M (pc + 1) lv (.int (x ^^^ y) :: st)) : G X M pc lv (.int y :: .int x :: st) := by
  obtain ⟨p, l, e, R, s, m, args, below, meth, c, Q, D, ad, ⟨cI, cJ, cO⟩, lo, cs, sl⟩ := X
  obtain ⟨hx, hb, -⟩ := C
  exact fun H locs ls hP hS hl => lv_ixor hx hb hd (kk H locs ls hP hS hl)
theorem g_ishr (C : Cx cc own ret d n X) {x y : Int32} (hd : decode cc pc = .ok (.ishr, 1)) (kk : G X M (pc + 1) lv (.int (x >>> (y &&& 31)) :: st)) : G X M pc lv (.int y :: .int x :: st) := by
  obtain ⟨p, l, e, R, s, m, args, below, meth, c, Q, D, ad, ⟨cI, cJ, cO⟩, lo, cs, sl⟩ := X
  obtain ⟨hx, hb, -⟩ := C
  exact fun H locs ls hP hS hl => lv_ishr hx hb hd (kk H locs ls hP hS hl)
theorem g_i2l (C : Cx cc own ret d n X) {x : Int32} (hd : decode cc pc = .ok (.i2l, 1)) (kk : G X M (pc + 1) lv (.long x.toInt64 :: st)) : G X M pc lv (.int x :: st) := by
  obtain ⟨p, l, e, R, s, m, args, below, meth, c, Q, D, ad, ⟨cI, cJ, cO⟩, lo, cs, sl⟩ := X
  obtain ⟨hx, hb, -⟩ := C
  exact fun H locs ls hP hS hl => lv_i2l hx hb hd rfl (kk H locs ls hP hS hl)
theorem g_ladd (C : Cx cc own ret d n X) {x y : Int64} (hd : decode cc pc = .ok (.ladd, 1)) (kk : G X M (pc + 1) lv (.long (x + y) :: st)) : G X M pc lv (.long y :: .long x :: st) := by
  obtain ⟨p, l, e, R, s, m, args, below, meth, c, Q, D, ad, ⟨cI, cJ, cO⟩, lo, cs, sl⟩ := X
  obtain ⟨hx, hb, -⟩ := C
  exact fun H locs ls hP hS hl => lv_ladd hx hb hd (kk H locs ls hP hS hl)
theorem g_lmul (C : Cx cc own ret d n X) {x y : Int64} (hd : decode cc pc = .ok (.lmul, 1)) (kk : G X M (pc + 1) lv (.long (x * y) :: st)) : G X M pc lv (.long y :: .long x :: st) := by
  obtain ⟨p, l, e, R, s, m, args, below, meth, c, Q, D, ad, ⟨cI, cJ, cO⟩, lo, cs, sl⟩ := X
  obtain ⟨hx, hb, -⟩ := C
  exact fun H locs ls hP hS hl => lv_lmul hx hb hd (kk H locs ls hP hS hl)
theorem g_land (C : Cx cc own ret d n X) {x y : Int64} (hd : decode cc pc = .ok (.land, 1)) (kk : G X M (pc + 1) lv (.long (x &&& y) :: st)) : G X M pc lv (.long y :: .long x :: st) := by
  obtain ⟨p, l, e, R, s, m, args, below, meth, c, Q, D, ad, ⟨cI, cJ, cO⟩, lo, cs, sl⟩ := X
  obtain ⟨hx, hb, -⟩ := C
  exact fun H locs ls hP hS hl => lv_land hx hb hd (kk H locs ls hP hS hl)
theorem g_lor (C : Cx cc own ret d n X) {x y : Int64} (hd : decode cc pc = .ok (.lor, 1)) (kk : G X M (pc + 1) lv (.long (x ||| y) :: st)) : G X M pc lv (.long y :: .long x :: st) := by
  obtain ⟨p, l, e, R, s, m, args, below, meth, c, Q, D, ad, ⟨cI, cJ, cO⟩, lo, cs, sl⟩ := X
  obtain ⟨hx, hb, -⟩ := C
  exact fun H locs ls hP hS hl => lv_lor hx hb hd (kk H locs ls hP hS hl)
theorem g_lshl (C : Cx cc own ret d n X) {x : Int64} {y : Int32} (hd : decode cc pc = .ok (.lshl, 1)) (kk : G X M (pc + 1) lv (.long (x <<< (y.toInt64 &&& 63)) :: st)) : G X M pc lv (.int y :: .long x :: st) := by
  obtain ⟨p, l, e, R, s, m, args, below, meth, c, Q, D, ad, ⟨cI, cJ, cO⟩, lo, cs, sl⟩ := X
  obtain ⟨hx, hb, -⟩ := C
  exact fun H locs ls hP hS hl => lv_lshl hx hb hd rfl (kk H locs ls hP hS hl)
theorem g_lconst (C : Cx cc own ret d n X) {k : Fin 2} (hd : decode cc pc = .ok (.lconst k, 1)) (kk : G X M (pc + 1) lv (.long (Int64.ofNat k) :: st)) : G X M pc lv st := by
  obtain ⟨p, l, e, R, s, m, args, below, meth, c, Q, D, ad, ⟨cI, cJ, cO⟩, lo, cs, sl⟩ := X
  obtain ⟨hx, hb, -⟩ := C
  exact fun H locs ls hP hS hl => lv_lconst hx hb hd rfl (kk H locs ls hP hS hl)
theorem g_lcmp (C : Cx cc own ret d n X) {x y : Int64} (hd : decode cc pc = .ok (.lcmp, 1)) (k1 : x = y → G X M (pc + 1) lv (.int (jI 0) :: st)) (k2 : x ≠ y → ∀ z : Int, -1 ≤ z → z ≤ 1 → z ≠ 0 → G X M (pc + 1) lv (.int (jI z) :: st)) : G X M pc lv (.long y :: .long x :: st) := by
  by_cases hq : x = y
  · have e1 : lg_cmp x y = jI 0 := by subst hq; simp [lg_cmp, jI]
    replace k1 := k1 hq
    obtain ⟨p, l, e, R, s, m, args, below, meth, c, Q, D, ad, ⟨cI, cJ, cO⟩, lo, cs, sl⟩ := X
    obtain ⟨hx, hb, -⟩ := C
    exact fun H locs ls hP hS hl => W.lcmp hx hb hd (by rw [e1]; exact k1 H locs ls hP hS hl)
  · obtain ⟨z, e1, z1, z2, z3⟩ : ∃ z : Int, lg_cmp x y = jI z ∧ -1 ≤ z ∧ z ≤ 1 ∧ z ≠ 0 := by
      by_cases h1 : y < x
      · exact ⟨1, by simp [lg_cmp, jI, h1], by omega, by omega, by omega⟩
      · exact ⟨-1, by simp [lg_cmp, jI, h1, hq], by omega, by omega, by omega⟩
    replace k2 := k2 hq z z1 z2 z3
    obtain ⟨p, l, e, R, s, m, args, below, meth, c, Q, D, ad, ⟨cI, cJ, cO⟩, lo, cs, sl⟩ := X
    obtain ⟨hx, hb, -⟩ := C
    exact fun H locs ls hP hS hl => W.lcmp hx hb hd (by rw [e1]; exact k2 H locs ls hP hS hl)
theorem g_dcmp (C : Cx cc own ret d n X) {x y : UInt64} {op : CmpOp} (hd : decode cc pc = .ok (.dcmp op, 1)) (kk : G X M (pc + 1) lv (.int (Op.cmpValue (FP.dcmp x y) op) :: st)) : G X M pc lv (.double y :: .double x :: st) := by
  obtain ⟨p, l, e, R, s, m, args, below, meth, c, Q, D, ad, ⟨cI, cJ, cO⟩, lo, cs, sl⟩ := X
  obtain ⟨hx, hb, -⟩ := C
  exact fun H locs ls hP hS hl => lv_dcmp hx hb hd (kk H locs ls hP hS hl)
theorem g_ddiv (C : Cx cc own ret d n X) {x y : UInt64} (hd : decode cc pc = .ok (.ddiv, 1)) (hn : vf_n64 (FP.ddiv x y)) (kk : G X M (pc + 1) lv (.double (FP.ddiv x y) :: st)) : G X M pc lv (.double y :: .double x :: st) := by
  obtain ⟨p, l, e, R, s, m, args, below, meth, c, Q, D, ad, ⟨cI, cJ, cO⟩, lo, cs, sl⟩ := X
  obtain ⟨hx, hb, -⟩ := C
  exact fun H locs ls hP hS hl => lv_ddiv hx hb hd hn (kk H locs ls hP hS hl)
theorem g_i2d (C : Cx cc own ret d n X) {x : Int32} (hd : decode cc pc = .ok (.i2d, 1)) (kk : G X M (pc + 1) lv (.double (FP.i2d x) :: st)) : G X M pc lv (.int x :: st) := by
  obtain ⟨p, l, e, R, s, m, args, below, meth, c, Q, D, ad, ⟨cI, cJ, cO⟩, lo, cs, sl⟩ := X
  obtain ⟨hx, hb, -⟩ := C
  exact fun H locs ls hP hS hl => lv_i2d hx hb hd (kk H locs ls hP hS hl)
theorem g_dconst0 (C : Cx cc own ret d n X) (hd : decode cc pc = .ok (.dconst 0, 1)) (kk : G X M (pc + 1) lv (.double FP.dconst0 :: st)) : G X M pc lv st := by
  obtain ⟨p, l, e, R, s, m, args, below, meth, c, Q, D, ad, ⟨cI, cJ, cO⟩, lo, cs, sl⟩ := X
  obtain ⟨hx, hb, -⟩ := C
  exact fun H locs ls hP hS hl => lv_dconst0 hx hb hd (kk H locs ls hP hS hl)
theorem g_dconst1 (C : Cx cc own ret d n X) (hd : decode cc pc = .ok (.dconst 1, 1)) (kk : G X M (pc + 1) lv (.double FP.dconst1 :: st)) : G X M pc lv st := by
  obtain ⟨p, l, e, R, s, m, args, below, meth, c, Q, D, ad, ⟨cI, cJ, cO⟩, lo, cs, sl⟩ := X
  obtain ⟨hx, hb, -⟩ := C
  exact fun H locs ls hP hS hl => lv_dconst1 hx hb hd (kk H locs ls hP hS hl)
theorem g_ldc (C : Cx cc own ret d n X) {idx : Nat} {v : Int32} (hl0 : Cond.constant own idx v ∈ tT) (hd : decode cc pc = .ok (.ldc idx, 2)) (kk : G X M (pc + 2) lv (.int v :: st)) : G X M pc lv st := by
  obtain ⟨p, l, e, R, s, m, args, below, meth, c, Q, D, ad, ⟨cI, cJ, cO⟩, lo, cs, sl⟩ := X
  obtain ⟨hx, hb, -, -, ho, hts, -⟩ := C
  exact fun H locs ls hP hS hl => lv_ldc hx hb ho (hts _ hl0) hd (kk H locs ls hP hS hl)
theorem g_ldcw (C : Cx cc own ret d n X) {idx : Nat} {v : Int32} (hl0 : Cond.constant own idx v ∈ tT) (hd : decode cc pc = .ok (.ldc_w idx, 3)) (kk : G X M (pc + 3) lv (.int v :: st)) : G X M pc lv st := by
  obtain ⟨p, l, e, R, s, m, args, below, meth, c, Q, D, ad, ⟨cI, cJ, cO⟩, lo, cs, sl⟩ := X
  obtain ⟨hx, hb, -, -, ho, hts, -⟩ := C
  exact fun H locs ls hP hS hl => lv_ldcw hx hb ho (hts _ hl0) hd (kk H locs ls hP hS hl)
theorem g_ldc2 (C : Cx cc own ret d n X) {idx : Nat} {v : Int64} (hl0 : Cond.constantLong own idx v ∈ tT) (hd : decode cc pc = .ok (.ldc2_w idx, 3)) (kk : G X M (pc + 3) lv (.long v :: st)) : G X M pc lv st := by
  obtain ⟨p, l, e, R, s, m, args, below, meth, c, Q, D, ad, ⟨cI, cJ, cO⟩, lo, cs, sl⟩ := X
  obtain ⟨hx, hb, -, -, ho, hts, -⟩ := C
  exact fun H locs ls hP hS hl => lv_ldc2 hx hb ho (hts _ hl0) hd (kk H locs ls hP hS hl)
theorem g_iinc (C : Cx cc own ret d n X) {k : Nat} {a x : Int} (hd : decode cc pc = .ok (.iinc k a, 3)) (hv : lv[k]? = some (some (.int (jI x)))) (kk : G X M (pc + 3) (z_st lv k (.int (jI (x + a)))) st) : G X M pc lv st := by
  obtain ⟨p, l, e, R, s, m, args, below, meth, c, Q, D, ad, ⟨cI, cJ, cO⟩, lo, cs, sl⟩ := X
  obtain ⟨hx, hb, -⟩ := C
  intro H locs ls hP hS hl
  obtain ⟨q, hq⟩ := List.getElem?_of_mem ((zal_mem 0 lv).mpr ⟨Nat.zero_le _, hv⟩)
  exact lv_iinc hx hb hd hl hq (jI_add x a) (List.getElem?_eq_some_iff.mp hv).1 rfl fun ls' hl' => kk H locs ls' hP hS (by rw [zst_len]; exact zst_has hl')
theorem g_icmp_eq (C : Cx cc own ret d n X) {x y off : Int} {tgt : Nat} (hd : decode cc pc = .ok (.if_icmp .eq off, 3)) (ht : (pc : Int) + off = (tgt : Int)) (hX : -2147483648 ≤ x ∧ x ≤ 2147483647) (hY : -2147483648 ≤ y ∧ y ≤ 2147483647) (k1 : x = y → G X M tgt lv st) (k2 : x ≠ y → G X M (pc + 3) lv st) : G X M pc lv (.int (jI y) :: .int (jI x) :: st) := by
  obtain ⟨p, l, e, R, s, m, args, below, meth, c, Q, D, ad, ⟨cI, cJ, cO⟩, lo, cs, sl⟩ := X
  obtain ⟨hx, hb, -⟩ := C
  exact fun H locs ls hP hS hl => lv_icmp_eq hx hb hd ht (fun q => k1 ((jI_eq hX hY).mp q) H locs ls hP hS hl) (fun q => k2 (fun z => q ((jI_eq hX hY).mpr z)) H locs ls hP hS hl)
theorem g_if_eq (C : Cx cc own ret d n X) {x off : Int} {tgt : Nat} (hd : decode cc pc = .ok (.ifCond .eq off, 3)) (ht : (pc : Int) + off = (tgt : Int)) (hX : -2147483648 ≤ x ∧ x ≤ 2147483647) (k1 : x = 0 → G X M tgt lv st) (k2 : x ≠ 0 → G X M (pc + 3) lv st) : G X M pc lv (.int (jI x) :: st) := by
  obtain ⟨p, l, e, R, s, m, args, below, meth, c, Q, D, ad, ⟨cI, cJ, cO⟩, lo, cs, sl⟩ := X
  obtain ⟨hx, hb, -⟩ := C
  have hY : (-2147483648 : Int) ≤ 0 ∧ (0 : Int) ≤ 2147483647 := by omega
  exact fun H locs ls hP hS hl => lv_if_eq hx hb hd ht (fun q => k1 ((jI_eq hX hY).mp q) H locs ls hP hS hl) (fun q => k2 (fun z => q ((jI_eq hX hY).mpr z)) H locs ls hP hS hl)
theorem g_icmp_ne (C : Cx cc own ret d n X) {x y off : Int} {tgt : Nat} (hd : decode cc pc = .ok (.if_icmp .ne off, 3)) (ht : (pc : Int) + off = (tgt : Int)) (hX : -2147483648 ≤ x ∧ x ≤ 2147483647) (hY : -2147483648 ≤ y ∧ y ≤ 2147483647) (k1 : x ≠ y → G X M tgt lv st) (k2 : x = y → G X M (pc + 3) lv st) : G X M pc lv (.int (jI y) :: .int (jI x) :: st) := by
  obtain ⟨p, l, e, R, s, m, args, below, meth, c, Q, D, ad, ⟨cI, cJ, cO⟩, lo, cs, sl⟩ := X
  obtain ⟨hx, hb, -⟩ := C
  exact fun H locs ls hP hS hl => lv_icmp_ne hx hb hd ht (fun q => k1 (fun z => q ((jI_eq hX hY).mpr z)) H locs ls hP hS hl) (fun q => k2 ((jI_eq hX hY).mp q) H locs ls hP hS hl)
theorem g_if_ne (C : Cx cc own ret d n X) {x off : Int} {tgt : Nat} (hd : decode cc pc = .ok (.ifCond .ne off, 3)) (ht : (pc : Int) + off = (tgt : Int)) (hX : -2147483648 ≤ x ∧ x ≤ 2147483647) (k1 : x ≠ 0 → G X M tgt lv st) (k2 : x = 0 → G X M (pc + 3) lv st) : G X M pc lv (.int (jI x) :: st) := by
  obtain ⟨p, l, e, R, s, m, args, below, meth, c, Q, D, ad, ⟨cI, cJ, cO⟩, lo, cs, sl⟩ := X
  obtain ⟨hx, hb, -⟩ := C
  have hY : (-2147483648 : Int) ≤ 0 ∧ (0 : Int) ≤ 2147483647 := by omega
  exact fun H locs ls hP hS hl => lv_if_ne hx hb hd ht (fun q => k1 (fun z => q ((jI_eq hX hY).mpr z)) H locs ls hP hS hl) (fun q => k2 ((jI_eq hX hY).mp q) H locs ls hP hS hl)
theorem g_icmp_lt (C : Cx cc own ret d n X) {x y off : Int} {tgt : Nat} (hd : decode cc pc = .ok (.if_icmp .lt off, 3)) (ht : (pc : Int) + off = (tgt : Int)) (hX : -2147483648 ≤ x ∧ x ≤ 2147483647) (hY : -2147483648 ≤ y ∧ y ≤ 2147483647) (k1 : x < y → G X M tgt lv st) (k2 : y ≤ x → G X M (pc + 3) lv st) : G X M pc lv (.int (jI y) :: .int (jI x) :: st) := by
  obtain ⟨p, l, e, R, s, m, args, below, meth, c, Q, D, ad, ⟨cI, cJ, cO⟩, lo, cs, sl⟩ := X
  obtain ⟨hx, hb, -⟩ := C
  exact fun H locs ls hP hS hl => lv_icmp_lt hx hb hd ht (fun q => k1 ((jI_lt hX hY).mp q) H locs ls hP hS hl) (fun q => k2 (Int.not_lt.mp fun z => q ((jI_lt hX hY).mpr z)) H locs ls hP hS hl)
theorem g_if_lt (C : Cx cc own ret d n X) {x off : Int} {tgt : Nat} (hd : decode cc pc = .ok (.ifCond .lt off, 3)) (ht : (pc : Int) + off = (tgt : Int)) (hX : -2147483648 ≤ x ∧ x ≤ 2147483647) (k1 : x < 0 → G X M tgt lv st) (k2 : 0 ≤ x → G X M (pc + 3) lv st) : G X M pc lv (.int (jI x) :: st) := by
  obtain ⟨p, l, e, R, s, m, args, below, meth, c, Q, D, ad, ⟨cI, cJ, cO⟩, lo, cs, sl⟩ := X
  obtain ⟨hx, hb, -⟩ := C
  have hY : (-2147483648 : Int) ≤ 0 ∧ (0 : Int) ≤ 2147483647 := by omega
  exact fun H locs ls hP hS hl => lv_if_lt hx hb hd ht (fun q => k1 ((jI_lt hX hY).mp q) H locs ls hP hS hl) (fun q => k2 (Int.not_lt.mp fun z => q ((jI_lt hX hY).mpr z)) H locs ls hP hS hl)
theorem g_icmp_ge (C : Cx cc own ret d n X) {x y off : Int} {tgt : Nat} (hd : decode cc pc = .ok (.if_icmp .ge off, 3)) (ht : (pc : Int) + off = (tgt : Int)) (hX : -2147483648 ≤ x ∧ x ≤ 2147483647) (hY : -2147483648 ≤ y ∧ y ≤ 2147483647) (k1 : y ≤ x → G X M tgt lv st) (k2 : x < y → G X M (pc + 3) lv st) : G X M pc lv (.int (jI y) :: .int (jI x) :: st) := by
  obtain ⟨p, l, e, R, s, m, args, below, meth, c, Q, D, ad, ⟨cI, cJ, cO⟩, lo, cs, sl⟩ := X
  obtain ⟨hx, hb, -⟩ := C
  exact fun H locs ls hP hS hl => lv_icmp_ge hx hb hd ht (fun q => k1 ((jI_le hY hX).mp q) H locs ls hP hS hl) (fun q => k2 (Int.not_le.mp fun z => q ((jI_le hY hX).mpr z)) H locs ls hP hS hl)
theorem g_if_ge (C : Cx cc own ret d n X) {x off : Int} {tgt : Nat} (hd : decode cc pc = .ok (.ifCond .ge off, 3)) (ht : (pc : Int) + off = (tgt : Int)) (hX : -2147483648 ≤ x ∧ x ≤ 2147483647) (k1 : 0 ≤ x → G X M tgt lv st) (k2 : x < 0 → G X M (pc + 3) lv st) : G X M pc lv (.int (jI x) :: st) := by
  obtain ⟨p, l, e, R, s, m, args, below, meth, c, Q, D, ad, ⟨cI, cJ, cO⟩, lo, cs, sl⟩ := X
  obtain ⟨hx, hb, -⟩ := C
  have hY : (-2147483648 : Int) ≤ 0 ∧ (0 : Int) ≤ 2147483647 := by omega
  exact fun H locs ls hP hS hl => lv_if_ge hx hb hd ht (fun q => k1 ((jI_le hY hX).mp q) H locs ls hP hS hl) (fun q => k2 (Int.not_le.mp fun z => q ((jI_le hY hX).mpr z)) H locs ls hP hS hl)
theorem g_icmp_gt (C : Cx cc own ret d n X) {x y off : Int} {tgt : Nat} (hd : decode cc pc = .ok (.if_icmp .gt off, 3)) (ht : (pc : Int) + off = (tgt : Int)) (hX : -2147483648 ≤ x ∧ x ≤ 2147483647) (hY : -2147483648 ≤ y ∧ y ≤ 2147483647) (k1 : y < x → G X M tgt lv st) (k2 : x ≤ y → G X M (pc + 3) lv st) : G X M pc lv (.int (jI y) :: .int (jI x) :: st) := by
  obtain ⟨p, l, e, R, s, m, args, below, meth, c, Q, D, ad, ⟨cI, cJ, cO⟩, lo, cs, sl⟩ := X
  obtain ⟨hx, hb, -⟩ := C
  exact fun H locs ls hP hS hl => lv_icmp_gt hx hb hd ht (fun q => k1 ((jI_lt hY hX).mp q) H locs ls hP hS hl) (fun q => k2 (Int.not_lt.mp fun z => q ((jI_lt hY hX).mpr z)) H locs ls hP hS hl)
theorem g_if_gt (C : Cx cc own ret d n X) {x off : Int} {tgt : Nat} (hd : decode cc pc = .ok (.ifCond .gt off, 3)) (ht : (pc : Int) + off = (tgt : Int)) (hX : -2147483648 ≤ x ∧ x ≤ 2147483647) (k1 : 0 < x → G X M tgt lv st) (k2 : x ≤ 0 → G X M (pc + 3) lv st) : G X M pc lv (.int (jI x) :: st) := by
  obtain ⟨p, l, e, R, s, m, args, below, meth, c, Q, D, ad, ⟨cI, cJ, cO⟩, lo, cs, sl⟩ := X
  obtain ⟨hx, hb, -⟩ := C
  have hY : (-2147483648 : Int) ≤ 0 ∧ (0 : Int) ≤ 2147483647 := by omega
  exact fun H locs ls hP hS hl => lv_if_gt hx hb hd ht (fun q => k1 ((jI_lt hY hX).mp q) H locs ls hP hS hl) (fun q => k2 (Int.not_lt.mp fun z => q ((jI_lt hY hX).mpr z)) H locs ls hP hS hl)
theorem g_icmp_le (C : Cx cc own ret d n X) {x y off : Int} {tgt : Nat} (hd : decode cc pc = .ok (.if_icmp .le off, 3)) (ht : (pc : Int) + off = (tgt : Int)) (hX : -2147483648 ≤ x ∧ x ≤ 2147483647) (hY : -2147483648 ≤ y ∧ y ≤ 2147483647) (k1 : x ≤ y → G X M tgt lv st) (k2 : y < x → G X M (pc + 3) lv st) : G X M pc lv (.int (jI y) :: .int (jI x) :: st) := by
  obtain ⟨p, l, e, R, s, m, args, below, meth, c, Q, D, ad, ⟨cI, cJ, cO⟩, lo, cs, sl⟩ := X
  obtain ⟨hx, hb, -⟩ := C
  exact fun H locs ls hP hS hl => lv_icmp_le hx hb hd ht (fun q => k1 ((jI_le hX hY).mp q) H locs ls hP hS hl) (fun q => k2 (Int.not_le.mp fun z => q ((jI_le hX hY).mpr z)) H locs ls hP hS hl)
theorem g_if_le (C : Cx cc own ret d n X) {x off : Int} {tgt : Nat} (hd : decode cc pc = .ok (.ifCond .le off, 3)) (ht : (pc : Int) + off = (tgt : Int)) (hX : -2147483648 ≤ x ∧ x ≤ 2147483647) (k1 : x ≤ 0 → G X M tgt lv st) (k2 : 0 < x → G X M (pc + 3) lv st) : G X M pc lv (.int (jI x) :: st) := by
  obtain ⟨p, l, e, R, s, m, args, below, meth, c, Q, D, ad, ⟨cI, cJ, cO⟩, lo, cs, sl⟩ := X
  obtain ⟨hx, hb, -⟩ := C
  have hY : (-2147483648 : Int) ≤ 0 ∧ (0 : Int) ≤ 2147483647 := by omega
  exact fun H locs ls hP hS hl => lv_if_le hx hb hd ht (fun q => k1 ((jI_le hX hY).mp q) H locs ls hP hS hl) (fun q => k2 (Int.not_le.mp fun z => q ((jI_le hX hY).mpr z)) H locs ls hP hS hl)
end
