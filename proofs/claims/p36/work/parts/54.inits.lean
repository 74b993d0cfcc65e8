/-! the constructors of lists, heaps, key sets, tournaments -/
def oNum (C : ClassId × ClassId × ClassId) (a : Nat) (as : Nat → Nat) : va_W := [(a, .inr (2, [.ref (as 0), .int (jI 0)])), (as 0, .inl (C.1, 120, .inl (fun _ => jI 0)))]
theorem k_num (l : Launch) : Kt l 1 yX2_init cX2_init 1 2 [.null, .int (jI 0)] 1 120 oNum := by
  refine Kt.of (by decide +kernel) rfl (Nat.le_of_ble_eq_true rfl) fun X w a hX hc hs C hR => ?_
  refine h_aload_n C dX2_init_0 rfl ?_
  refine h_obj C (by decide) (tT_i (i := 38) (by decide +kernel) (by decide +kernel)) rfl (Nat.le_of_ble_eq_true rfl) dX2_init_1 ?_
  refine h_aload_n C dX2_init_4 rfl ?_
  refine h_bipush C dX2_init_5 rfl ?_
  refine h_newI (N := 120) C (by decide) (by omega) (by omega) dX2_init_7 fun q0 => ?_
  refine h_putF C 0 (k := 0) rfl rfl uw_X2 tyX2_ok nmX2 (by decide) tw_39 rfl rfl rfl rfl rfl (Nat.le_of_ble_eq_true rfl) dX2_init_9 ?_
  refine h_aload_n C dX2_init_12 rfl ?_
  refine h_iconst C dX2_init_13 ?_
  refine h_put C 0 (k := 1) rfl rfl uw_X2 tyX2_ok nmX2 (by decide) tw_40 rfl rfl rfl rfl (Nat.le_of_ble_eq_true rfl) dX2_init_14 ?_
  have := h_vret (tl := oNum (zC X) a (fun _ => q0)) C hR (fun _ => q0) rfl dX2_init_17 (lv := [some (.ref a)])
  rw [hc, hs] at this
  exact this
def oHeap (C : ClassId × ClassId × ClassId) (a : Nat) (as : Nat → Nat) : va_W := [(a, .inr (0, [.ref (as 0), .int (jI 0)])), (as 0, .inl (C.1, 120, .inl (fun _ => jI 0)))]
theorem k_heap (l : Launch) : Kt l 1 yX0_init cX0_init 1 0 [.null, .int (jI 0)] 1 120 oHeap := by
  refine Kt.of (by decide +kernel) rfl (Nat.le_of_ble_eq_true rfl) fun X w a hX hc hs C hR => ?_
  refine h_aload_n C dX0_init_0 rfl ?_
  refine h_obj C (by decide) (tT_i (i := 52) (by decide +kernel) (by decide +kernel)) rfl (Nat.le_of_ble_eq_true rfl) dX0_init_1 ?_
  refine h_aload_n C dX0_init_4 rfl ?_
  refine h_bipush C dX0_init_5 rfl ?_
  refine h_newI (N := 120) C (by decide) (by omega) (by omega) dX0_init_7 fun q0 => ?_
  refine h_putF C 0 (k := 0) rfl rfl uw_X0 tyX0_ok nmX0 (by decide) tw_53 rfl rfl rfl rfl rfl (Nat.le_of_ble_eq_true rfl) dX0_init_9 ?_
  refine h_aload_n C dX0_init_12 rfl ?_
  refine h_iconst C dX0_init_13 ?_
  refine h_put C 0 (k := 1) rfl rfl uw_X0 tyX0_ok nmX0 (by decide) tw_54 rfl rfl rfl rfl (Nat.le_of_ble_eq_true rfl) dX0_init_14 ?_
  have := h_vret (tl := oHeap (zC X) a (fun _ => q0)) C hR (fun _ => q0) rfl dX0_init_17 (lv := [some (.ref a)])
  rw [hc, hs] at this
  exact this
def oKset (C : ClassId × ClassId × ClassId) (a : Nat) (as : Nat → Nat) : va_W := [(a, .inr (1, [.ref (as 0)])), (as 0, .inl (C.2.1, 32, .inr (.inl (fun _ => jL 0))))]
theorem k_kset (l : Launch) : Kt l 1 yX1_init cX1_init 1 1 [.null] 1 32 oKset := by
  refine Kt.of (by decide +kernel) rfl (Nat.le_of_ble_eq_true rfl) fun X w a hX hc hs C hR => ?_
  refine h_aload_n C dX1_init_0 rfl ?_
  refine h_obj C (by decide) (tT_i (i := 207) (by decide +kernel) (by decide +kernel)) rfl (Nat.le_of_ble_eq_true rfl) dX1_init_1 ?_
  refine h_aload_n C dX1_init_4 rfl ?_
  refine h_bipush C dX1_init_5 rfl ?_
  refine h_newJ (N := 32) C (by decide) (by omega) (by omega) dX1_init_7 fun q0 => ?_
  refine h_putF C 0 (k := 0) rfl rfl uw_X1 tyX1_ok nmX1 (by decide) tw_208 rfl rfl rfl rfl rfl (Nat.le_of_ble_eq_true rfl) dX1_init_9 ?_
  have := h_vret (tl := oKset (zC X) a (fun _ => q0)) C hR (fun _ => q0) rfl dX1_init_12 (lv := [some (.ref a)])
  rw [hc, hs] at this
  exact this
def oTour (C : ClassId × ClassId × ClassId) (a : Nat) (as : Nat → Nat) : va_W := [(a, .inr (7, [.int (jI 0), .int (jI 0), .int (jI 0), .int (jI 0), .int (jI 0), .int (jI 0), .ref (as 0), .ref (as 1), .ref (as 2), .ref (as 3)])), (as 0, .inl (C.2.2, 8, .inr (.inr (.inr (.inr (fun _ => none)))))), (as 1, .inl (C.1, 8, .inl (fun _ => jI 0))), (as 2, .inl (C.1, 8, .inl (fun _ => jI 0))), (as 3, .inl (C.1, 16, .inl (fun _ => jI 0)))]
theorem k_tour (l : Launch) : Kt l 1 yX7_init cX7_init 1 7 [.int (jI 0), .int (jI 0), .int (jI 0), .int (jI 0), .int (jI 0), .int (jI 0), .null, .null, .null, .null] 4 40 oTour := by
  refine Kt.of (by decide +kernel) rfl (Nat.le_of_ble_eq_true rfl) fun X w a hX hc hs C hR => ?_
  refine h_aload_n C dX7_init_0 rfl ?_
  refine h_obj C (by decide) (tT_i (i := 97) (by decide +kernel) (by decide +kernel)) rfl (Nat.le_of_ble_eq_true rfl) dX7_init_1 ?_
  refine h_aload_n C dX7_init_4 rfl ?_
  refine h_iconst C dX7_init_5 ?_
  refine h_put C 0 (k := 0) rfl rfl uw_X7 tyX7_ok nmX7 (by decide) tw_99 rfl rfl rfl rfl (Nat.le_of_ble_eq_true rfl) dX7_init_6 ?_
  refine h_aload_n C dX7_init_9 rfl ?_
  refine h_iconst C dX7_init_10 ?_
  refine h_put C 0 (k := 1) rfl rfl uw_X7 tyX7_ok nmX7 (by decide) tw_101 rfl rfl rfl rfl (Nat.le_of_ble_eq_true rfl) dX7_init_11 ?_
  refine h_aload_n C dX7_init_14 rfl ?_
  refine h_iconst C dX7_init_15 ?_
  refine h_put C 0 (k := 2) rfl rfl uw_X7 tyX7_ok nmX7 (by decide) tw_103 rfl rfl rfl rfl (Nat.le_of_ble_eq_true rfl) dX7_init_16 ?_
  refine h_aload_n C dX7_init_19 rfl ?_
  refine h_iconst C dX7_init_20 ?_
  refine h_put C 0 (k := 3) rfl rfl uw_X7 tyX7_ok nmX7 (by decide) tw_104 rfl rfl rfl rfl (Nat.le_of_ble_eq_true rfl) dX7_init_21 ?_
  refine h_aload_n C dX7_init_24 rfl ?_
  refine h_iconst C dX7_init_25 ?_
  refine h_put C 0 (k := 4) rfl rfl uw_X7 tyX7_ok nmX7 (by decide) tw_106 rfl rfl rfl rfl (Nat.le_of_ble_eq_true rfl) dX7_init_26 ?_
  refine h_aload_n C dX7_init_29 rfl ?_
  refine h_iconst C dX7_init_30 ?_
  refine h_put C 0 (k := 5) rfl rfl uw_X7 tyX7_ok nmX7 (by decide) tw_107 rfl rfl rfl rfl (Nat.le_of_ble_eq_true rfl) dX7_init_31 ?_
  refine h_aload_n C dX7_init_34 rfl ?_
  refine h_bipush C dX7_init_35 rfl ?_
  refine h_newQ (N := 8) C (by decide) (by omega) (by omega) tw_98 dX7_init_37 fun q0 => ?_
  refine h_putF C 0 (k := 6) rfl rfl uw_X7 tyX7_ok nmX7 (by decide) tw_108 rfl rfl rfl rfl rfl (Nat.le_of_ble_eq_true rfl) dX7_init_40 ?_
  refine h_aload_n C dX7_init_43 rfl ?_
  refine h_bipush C dX7_init_44 rfl ?_
  refine h_newI (N := 8) C (by decide) (by omega) (by omega) dX7_init_46 fun q1 => ?_
  refine h_putF C 0 (k := 7) rfl rfl uw_X7 tyX7_ok nmX7 (by decide) tw_109 rfl rfl rfl rfl rfl (Nat.le_of_ble_eq_true rfl) dX7_init_48 ?_
  refine h_aload_n C dX7_init_51 rfl ?_
  refine h_bipush C dX7_init_52 rfl ?_
  refine h_newI (N := 8) C (by decide) (by omega) (by omega) dX7_init_54 fun q2 => ?_
  refine h_putF C 0 (k := 8) rfl rfl uw_X7 tyX7_ok nmX7 (by decide) tw_110 rfl rfl rfl rfl rfl (Nat.le_of_ble_eq_true rfl) dX7_init_56 ?_
  refine h_aload_n C dX7_init_59 rfl ?_
  refine h_bipush C dX7_init_60 rfl ?_
  refine h_newI (N := 16) C (by decide) (by omega) (by omega) dX7_init_62 fun q3 => ?_
  refine h_putF C 0 (k := 9) rfl rfl uw_X7 tyX7_ok nmX7 (by decide) tw_111 rfl rfl rfl rfl rfl (Nat.le_of_ble_eq_true rfl) dX7_init_64 ?_
  have := h_vret (tl := oTour (zC X) a (fun i => if i = 0 then q0 else if i = 1 then q1 else if i = 2 then q2 else q3)) C hR (fun i => if i = 0 then q0 else if i = 1 then q1 else if i = 2 then q2 else q3) rfl dX7_init_67 (lv := [some (.ref a)])
  rw [hc, hs] at this
  exact this
