/-! the script's cells -/
def zS (X : z_X) : State := X.2.2.2.2.1
def zlo (X : z_X) : Nat := X.2.2.2.2.2.2.2.2.2.2.2.2.2.2.1
theorem g_slen {X : z_X} {cc : ByteArray} {own : String} {ret : Option FieldType} {d n : Nat} {M : zM} {pc : Nat} {lv : List (Option Value)} {st : List Value} (C : Cx cc own ret d n X) {b L : Nat} {xs : Nat → Int32} (hX : va_X b L xs (zS X) (zS X).heap) (hb : b < (zS X).heap.size) (hlo : b < zlo X) (hd : decode cc pc = .ok (.arraylength, 1)) (kk : G X M (pc + 1) lv (.int (jI (L : Int)) :: st)) : G X M pc lv (.ref b :: st) := by
  obtain ⟨p, l, e, R, s, m, args, below, meth, c, Q, D, ad, ⟨cI, cJ, cO⟩, lo, cs, sl⟩ := X
  obtain ⟨hx, hb', -⟩ := C
  exact fun H locs ls hP hS hl => va_slen hx hb' hX hb (Nat.not_le.mpr hlo) hS hd (by have := kk H locs ls hP hS hl; rw [jI_n] at this; exact this)
theorem g_sald {X : z_X} {cc : ByteArray} {own : String} {ret : Option FieldType} {d n : Nat} {M : zM} {pc : Nat} {lv : List (Option Value)} {st : List Value} (C : Cx cc own ret d n X) {b L k : Nat} {xs : Nat → Int32} (hX : va_X b L xs (zS X) (zS X).heap) (hb : b < (zS X).heap.size) (hlo : b < zlo X) (hL : L ≤ 260) (hk : k < L) (hd : decode cc pc = .ok (.iaload, 1)) (kk : G X M (pc + 1) lv (.int (xs k) :: st)) : G X M pc lv (.int (jI (k : Int)) :: .ref b :: st) := by
  obtain ⟨p, l, e, R, s, m, args, below, meth, c, Q, D, ad, ⟨cI, cJ, cO⟩, lo, cs, sl⟩ := X
  obtain ⟨hx, hb', -⟩ := C
  exact fun H locs ls hP hS hl => va_sld hx hb' hX hb (Nat.not_le.mpr hlo) hS (jI_in hk (by omega)) hd (by have := kk H locs ls hP hS hl; rw [jI_cl (by omega)]; exact this)
def zBx (D : va_G) (ad : Nat → Nat) (cI cJ cO : ClassId) (lo : Nat) (M : zM) (b L : Nat) (xs : Nat → Int32) (U : State) : Prop := z_B D ad cI cJ cO lo M U ∧ va_X b L xs U U.heap ∧ b < U.heap.size
theorem cell_met (l : Launch) (D : va_G) (ad : Nat → Nat) (cI cJ cO : ClassId) (lo : Nat) (M : zM) {b L : Nat} (xs : Nat → Int32) (hL : L ≤ 260) (hlo : b < lo) (k : Nat) (hk : k < 32) :
    Met l yL_cell (tW yL_cell cL_cell 2 (some .int)) (z_room 1) (va_Pc [.ref b, .int (jI (k : Int))] (zBx D ad cI cJ cO lo M b L xs)) (z_Q D ad cI cJ cO lo (fun vv M' => (∃ v : Int32, vv = some (.int v)) ∧ M' = M)) 0 0 (fun q => lo ≤ q) := by
  refine z_ofW (cc := cL_cell) (maxL := 2) (ret := some .int) (by decide +kernel) rfl ?_
  intro p e s m args below meth c s₁ B hml hv
  obtain ⟨rfl, ⟨hP, hK, hN, hD⟩, hX, hb⟩ := hv
  have hts : ∀ w ∈ tT, w.before ([Value.ref b, .int (jI (k : Int))] : List Value).toArray s = true := fun w hw => atoms_spec (ws := tW yL_cell cL_cell 2 (some .int)) B.pre w (List.mem_cons_of_mem _ hw)
  obtain ⟨X, hXe⟩ : ∃ X : z_X, X = (p, l, e, z_room 1, s, m, ([Value.ref b, .int (jI (k : Int))] : List Value).toArray, below, meth, c, MQ below (z_Q D ad cI cJ cO lo (fun vv M' => (∃ v : Int32, vv = some (.int v)) ∧ M' = M)) ([Value.ref b, .int (jI (k : Int))] : List Value).toArray s 0 0 (fun q => lo ≤ q), D, ad, (cI, cJ, cO), lo, 0, 0) := ⟨_, rfl⟩
  have C : Cx cL_cell RL (some .int) 1 2 X := by
    rw [hXe]
    exact ⟨B.exec, B.bytes, B.returns, hml, findClass_of_methodNamed B.named, hts, hK, hN, hD, B.notSynchronized, ⟨Nat.le_refl _, Nat.le_refl _⟩, ⟨Nat.le_refl _, Nat.le_refl _⟩⟩
  have hR : Rx (fun _ vv M' => (∃ v : Int32, vv = some (.int v)) ∧ M' = M) X := by rw [hXe]; rfl
  have hX' : va_X b L xs (zS X) (zS X).heap := by rw [hXe]; exact hX
  have hb' : b < (zS X).heap.size := by rw [hXe]; exact hb
  have hlo' : b < zlo X := by rw [hXe]; exact hlo
  have h : G X M 0 [some (.ref b), some (.int (jI (k : Int)))] [] := by
    refine g_iload_n C dL_cell_0 rfl ?_
    refine g_aload_n C dL_cell_1 rfl ?_
    refine g_slen C hX' hb' hlo' dL_cell_2 ?_
    refine g_icmp_ge (tgt := 12) C dL_cell_3 rfl (by omega) (by omega) (fun h3 => ?_) (fun h3 => ?_)
    · refine g_ldc C tw_850 dL_cell_12 ?_
      show G X _ _ _ (.int (jI 790386105) :: _)
      refine g_iload_n C dL_cell_14 rfl ?_
      refine g_iconst C dL_cell_15 ?_
      refine g_iadd C dL_cell_16 ?_
      refine g_imul C dL_cell_17 ?_
      show G X _ 18 _ _
      refine g_iret C hR dL_cell_18 ?_
      exact ⟨⟨_, rfl⟩, rfl⟩
    · refine g_aload_n C dL_cell_6 rfl ?_
      refine g_iload_n C dL_cell_7 rfl ?_
      refine g_sald C hX' hb' hlo' hL (by omega) dL_cell_8 ?_
      refine g_goto (tgt := 18) C dL_cell_9 rfl ?_
      show G X _ 18 _ _
      refine g_iret C hR dL_cell_18 ?_
      exact ⟨⟨_, rfl⟩, rfl⟩
  rw [hXe] at h
  rw [lg_entry_eq]
  refine h s.heap [] _ hP va_S.rf ?_
  exact lv_entry [Value.ref b, .int (jI (k : Int))] (Nat.le_of_ble_eq_true rfl)
theorem hcell_of {X : z_X} (C : Cx cL_law RL (some .boolean) 100 18 X) {b L : Nat} {xs : Nat → Int32} (hX : va_X b L xs (zS X) (zS X).heap) (hb : b < (zS X).heap.size) (hlo : b < zlo X) (hL : L ≤ 260) : zHcell X b := by
  intro M pc k lv st hk hdec hlen hcat kk
  obtain ⟨p, l, e, R, s, m, args, below, meth, c, Q, D, ad, ⟨cI, cJ, cO⟩, lo, cs, sl⟩ := X
  obtain ⟨hx, hbb, hr, hml, hown, hts, hK, hN, hD, hlk, ⟨hR1, hR2⟩, hR3⟩ := C
  replace hX : va_X b L xs s s.heap := hX
  replace hb : b < s.heap.size := hb
  replace hlo : b < lo := hlo
  intro H locs ls hP hS hl
  have hXH : va_X b L xs s H := hX.kept (hS.2.1 b hb (Nat.not_le.mpr hlo))
  refine z_call (va_runS (As := [.ref b, .int (jI (k : Int))]) (rest := st) (own := RL) (index := 20) (n := 2) (nL := 18) (bytes := cL_cell) (maxL := 2) (ret := some .int) ⟨hx, hbb, hml, hown, hts⟩ (cell_met l D ad cI cJ cO lo M xs hL hlo k hk) ⟨callB_of 2 hts (z_good mfL_cell.1) rfl rfl rfl (hts _ mfL_cell.2.2) (hts _ tw_847) ⟨by decide +kernel, by decide +kernel, by decide +kernel⟩ ⟨by show 1 + 1 ≤ R.frames; omega, by show 8 + (2 + 11) + 40 * 1 ≤ R.locals; omega⟩, hts _ mfL_cell.2.1⟩ ⟨fun a U g mk h => ⟨h.1, ⟨h.2.1.1, va_K.moved (u := U) (U := U.calling g mk a) (Vm.Alike.refl U.vm) h.2.1.2.1, z_N.same (u := U) (U := U.calling g mk a) rfl h.2.1.2.2.1, h.2.1.2.2.2⟩, va_X.moved (u := U) (U := U.calling g mk a) (Vm.Alike.refl U.vm) h.2.2.1, h.2.2.2⟩, fun U hU hW => ⟨rfl, ⟨by rw [hU]; exact hP, va_K.moved hW.alike hK, hN.warm hW, hD⟩, by rw [hU]; exact hXH.moved hW.alike, by rw [hU]; exact Nat.lt_of_lt_of_le hb hS.1⟩⟩ rfl rfl (hl.1.trans hlen) rfl (lv_room hcat) hdec ⟨by omega, by omega⟩) hS fun v M' H1 locs1 hp hP1 hS1 => ?_
  obtain ⟨⟨w, rfl⟩, rfl⟩ := hp
  exact kk w H1 locs1 ls hP1 hS1 hl
