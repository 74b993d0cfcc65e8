/-! the law's first eight bytes -/
theorem w_start {p : Program} {l : Launch} {e : Env} {s : State} {m : MethodId} {below : List Frame} {meth : Method} {c : Code} {b L : Nat} {xs : Nat → Int32} (hL : L ≤ 260) (C0 : lw_At p s m meth c b L xs) {d0 : Drawn} (hd0 : s.drawn.sameBut d0 lw_cs) (ht0 : ∀ w ∈ lw_tbl, w.before #[Value.ref b] (s.setDrawn d0) = true) (hX0 : va_X b L xs (s.setDrawn d0) (s.setDrawn d0).heap) : W p l e room_1 (s.setDrawn d0) m #[Value.ref b] below meth c (s.setDrawn d0).heap [] 0 0 (lw_Z below #[Value.ref b] s) (entryFrame m ([Value.ref b] : List Value).toArray 18) := by
  obtain ⟨hx, hb, hr, hml, hown, hts0, hX, hbl, hlk, hgv⟩ := C0
  have hts : ∀ w ∈ tT, w.before #[Value.ref b] (s.setDrawn d0) = true := fun w hw => ht0 w (List.mem_filter.mp hw).1
  obtain ⟨D, hD⟩ := w_known hts
  obtain ⟨cI, cJ, cO, hT⟩ := w_tys ht0
  have hK : va_K D vwCl (z_tys cI cJ cO) (s.setDrawn d0) := ⟨hD, hT⟩
  have hown1 : (s.setDrawn d0).vm.findClass RL = some m.cls := hown
  have hNI := w_NI ht0
  have hN := w_N ht0
  have hl0 : lv_has ((lg_sl [Value.ref b] ++ List.replicate (18 - (lg_sl [Value.ref b]).length) Slot.unset).toArray) 18 (z_al 0 [some (.ref b), none, none, none, none, none, none, none, none, none, none, none, none, none, none, none, none, none]) := lv_entry [Value.ref b] (by rw [show (lg_sl [Value.ref b]).length = 1 from rfl]; decide)
  have hP0 : va_P D vwCl ([] : va_W) (s.setDrawn d0).heap := fun k q h => by simp at h
  have hD0 : va_D (fun q => (s.setDrawn d0).heap.size ≤ q) ([] : va_W) := ⟨fun i j p q h _ _ => by simp at h, fun k q h => by simp at h⟩
  rw [lg_entry_eq]
  refine va_new (cl := vwCl) (ws := []) (A := fun q => (s.setDrawn d0).heap.size ≤ q) (H0 := (s.setDrawn d0).heap) (ci := 8) (fs := [.null, .int (jI 0), .int (jI 0), .int (jI 0), .int (jI 0), .int (jI 0), .int (jI 0), .null, .null, .null, .null, .null, .null, .null]) hx hb hts uw_X8 tyX8 tyX8_ok hown1 (hts _ tw_17) (hts _ tw_18) (hts _ tw_1) hK hP0 hD0 va_S.rf (fun q h => h) rfl (by decide +kernel) (Nat.le_of_ble_eq_true rfl) (Nat.le_of_ble_eq_true rfl) dL_law_0 fun q H1 hP hDs hS => ?_
  refine lv_dup hx hb dL_law_3 rfl ?_
  have hM1 := k_ms l D cI cJ cO (s.setDrawn d0).heap.size [] q
  refine gw_call (a := #[Value.ref q]) (F := fun as => [] ++ oMs (cI, cJ, cO) q as) (va_runI (s := s.setDrawn d0) (e := e) (R := room_1) (args := #[Value.ref b]) (As := []) (rest := [.ref q]) (b := q) (own := RL) (index := 19) (n := 0) (nL := 18) (bytes := cX8_init) (maxL := 2) ⟨hx, hb, hml, hown1, hts⟩ hM1 ⟨callB_of 0 hts (z_good tw_21) rfl rfl rfl (hts _ tw_1) (hts _ tw_19) ⟨by decide +kernel, by decide +kernel, by decide +kernel⟩ ⟨Nat.le_of_ble_eq_true rfl, Nat.le_of_ble_eq_true rfl⟩, rfl, hts _ tw_20⟩ ⟨fun a U g mk h => ⟨h.1, h.2.1, va_K.moved (u := U) (U := U.calling g mk a) (Vm.Alike.refl U.vm) h.2.2.1, z_NI.same (u := U) (U := U.calling g mk a) rfl h.2.2.2.1, h.2.2.2.2.1, h.2.2.2.2.2⟩, fun U hU hW => ⟨rfl, by rw [hU]; exact hP, va_K.moved hW.alike hK, z_NI.warm (s := s.setDrawn d0) hW hNI, hDs, by rw [hU]; exact hS.1⟩⟩ rfl rfl hl0.1 rfl (lv_room (Nat.le_of_ble_eq_true rfl)) dL_law_4 ⟨Nat.le_of_ble_eq_true rfl, Nat.le_of_ble_eq_true rfl⟩) hS fun as H2 locs2 hP2 hD2 hS2 => ?_
  refine lv_astore_n (k := 1) (i := 1) (nL := 18) hx hb dL_law_7 rfl hl0 (by decide) rfl fun ls' hl' => ?_
  have hP3 : va_P D vwCl (z_w (msAd q as) cI cJ cO zM0) H2 := ms_world hP2
  have hD3 : ∀ M, va_D (fun x => (s.setDrawn d0).heap.size ≤ x) (z_w (msAd q as) cI cJ cO M) := fun M => ms_dist (C := (cI, cJ, cO)) hD2 cI cJ cO M
  have C : Cx cL_law RL (some .boolean) 100 18 (zXl p l e s d0 m below meth c b D (msAd q as) cI cJ cO 97 6343) := ⟨hx, hb, hr, hml, hown1, hts, hK, hN, hD3, hlk, ⟨Nat.le_of_ble_eq_true rfl, Nat.le_of_ble_eq_true rfl⟩, ⟨Nat.le_of_ble_eq_true rfl, Nat.le_of_ble_eq_true rfl⟩⟩
  have h := lw_from8 hd0 C (Nat.le_of_ble_eq_true rfl) (Nat.le_of_ble_eq_true rfl) hX0 hbl hL zM0_lw
  exact h H2 locs2 ls' hP3 hS2 (zst_has hl')
theorem whole_start {p : Program} {e : Env} {s : State} {m : MethodId} {below : List Frame} {meth : Method} {c : Code} (l : Launch) (hflags : l.flags = flags0) {b L : Nat} {xs : Nat → Int32} (hL : L ≤ 260) (C0 : lw_At p s m meth c b L xs) : W p l e room_1 s m #[Value.ref b] below meth c s.heap [] 0 0 (lw_Z below #[Value.ref b] s) (entryFrame m ([Value.ref b] : List Value).toArray 18) := by
  refine W.base ?_
  exact w_start hL C0 (Drawn.sameBut.refl s.drawn lw_cs) C0.2.2.2.2.2.1 C0.2.2.2.2.2.2.1
