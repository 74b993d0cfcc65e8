/-! the constructors of plans and outcomes -/
def oPlan (C : ClassId × ClassId × ClassId) (a : Nat) (as : Nat → Nat) : va_W := [(a, .inr (4, [.ref (as 0), .ref (as 2), .ref (as 4), .int (jI 0), .int (jI 0), .ref (as 6), .ref (as 8), .int (jI 4)]))] ++ oNum C (as 0) (fun _ => as 1) ++ oNum C (as 2) (fun _ => as 3) ++ oNum C (as 4) (fun _ => as 5) ++ oNum C (as 6) (fun _ => as 7) ++ oHeap C (as 8) (fun _ => as 9)
theorem k_plan (l : Launch) : Kt l 2 yX4_init cX4_init 1 4 [.null, .null, .null, .int (jI 0), .int (jI 0), .null, .null, .int (jI 0)] 10 610 oPlan := by
  refine Kt.of (by decide +kernel) rfl (Nat.le_of_ble_eq_true rfl) fun X w a hX hc hs C hR => ?_
  refine h_aload_n C dX4_init_0 rfl ?_
  refine h_obj C (by decide) (tT_i (i := 32) (by decide +kernel) (by decide +kernel)) rfl (Nat.le_of_ble_eq_true rfl) dX4_init_1 ?_
  refine h_aload_n C dX4_init_4 rfl ?_
  refine h_new (ci := 2) C tw_33 tw_34 tw_3 rfl uw_X2 tyX2_ok (fs := [.null, .int (jI 0)]) (by decide +kernel) (by omega) (by omega) dX4_init_5 fun q0 => ?_
  refine h_dup C dX4_init_8 rfl ?_
  refine h_initN C (k_num (zL X)) (by decide) tw_37 tw_36 tw_3 rfl ⟨by decide +kernel, by decide +kernel, by decide +kernel⟩ ⟨by decide, by decide⟩ (by omega) (by omega) rfl (Nat.le_of_ble_eq_true rfl) dX4_init_9 fun e1 => ?_
  refine h_putF C 0 (k := 0) rfl rfl uw_X4 tyX4_ok nmX4 (by decide) tw_60 rfl rfl rfl rfl rfl (Nat.le_of_ble_eq_true rfl) dX4_init_12 ?_
  refine h_aload_n C dX4_init_15 rfl ?_
  refine h_new (ci := 2) C tw_33 tw_34 tw_3 rfl uw_X2 tyX2_ok (fs := [.null, .int (jI 0)]) (by decide +kernel) (by omega) (by omega) dX4_init_16 fun q2 => ?_
  refine h_dup C dX4_init_19 rfl ?_
  refine h_initN C (k_num (zL X)) (by decide) tw_37 tw_36 tw_3 rfl ⟨by decide +kernel, by decide +kernel, by decide +kernel⟩ ⟨by decide, by decide⟩ (by omega) (by omega) rfl (Nat.le_of_ble_eq_true rfl) dX4_init_20 fun e3 => ?_
  refine h_putF C 0 (k := 1) rfl rfl uw_X4 tyX4_ok nmX4 (by decide) tw_62 rfl rfl rfl rfl rfl (Nat.le_of_ble_eq_true rfl) dX4_init_23 ?_
  refine h_aload_n C dX4_init_26 rfl ?_
  refine h_new (ci := 2) C tw_33 tw_34 tw_3 rfl uw_X2 tyX2_ok (fs := [.null, .int (jI 0)]) (by decide +kernel) (by omega) (by omega) dX4_init_27 fun q4 => ?_
  refine h_dup C dX4_init_30 rfl ?_
  refine h_initN C (k_num (zL X)) (by decide) tw_37 tw_36 tw_3 rfl ⟨by decide +kernel, by decide +kernel, by decide +kernel⟩ ⟨by decide, by decide⟩ (by omega) (by omega) rfl (Nat.le_of_ble_eq_true rfl) dX4_init_31 fun e5 => ?_
  refine h_putF C 0 (k := 2) rfl rfl uw_X4 tyX4_ok nmX4 (by decide) tw_64 rfl rfl rfl rfl rfl (Nat.le_of_ble_eq_true rfl) dX4_init_34 ?_
  refine h_aload_n C dX4_init_37 rfl ?_
  refine h_iconst C dX4_init_38 ?_
  refine h_put C 0 (k := 3) rfl rfl uw_X4 tyX4_ok nmX4 (by decide) tw_66 rfl rfl rfl rfl (Nat.le_of_ble_eq_true rfl) dX4_init_39 ?_
  refine h_aload_n C dX4_init_42 rfl ?_
  refine h_iconst C dX4_init_43 ?_
  refine h_put C 0 (k := 4) rfl rfl uw_X4 tyX4_ok nmX4 (by decide) tw_68 rfl rfl rfl rfl (Nat.le_of_ble_eq_true rfl) dX4_init_44 ?_
  refine h_aload_n C dX4_init_47 rfl ?_
  refine h_new (ci := 2) C tw_33 tw_34 tw_3 rfl uw_X2 tyX2_ok (fs := [.null, .int (jI 0)]) (by decide +kernel) (by omega) (by omega) dX4_init_48 fun q6 => ?_
  refine h_dup C dX4_init_51 rfl ?_
  refine h_initN C (k_num (zL X)) (by decide) tw_37 tw_36 tw_3 rfl ⟨by decide +kernel, by decide +kernel, by decide +kernel⟩ ⟨by decide, by decide⟩ (by omega) (by omega) rfl (Nat.le_of_ble_eq_true rfl) dX4_init_52 fun e7 => ?_
  refine h_putF C 0 (k := 5) rfl rfl uw_X4 tyX4_ok nmX4 (by decide) tw_70 rfl rfl rfl rfl rfl (Nat.le_of_ble_eq_true rfl) dX4_init_55 ?_
  refine h_aload_n C dX4_init_58 rfl ?_
  refine h_new (ci := 0) C tw_47 tw_48 tw_4 rfl uw_X0 tyX0_ok (fs := [.null, .int (jI 0)]) (by decide +kernel) (by omega) (by omega) dX4_init_59 fun q8 => ?_
  refine h_dup C dX4_init_62 rfl ?_
  refine h_initN C (k_heap (zL X)) (by decide) tw_51 tw_50 tw_4 rfl ⟨by decide +kernel, by decide +kernel, by decide +kernel⟩ ⟨by decide, by decide⟩ (by omega) (by omega) rfl (Nat.le_of_ble_eq_true rfl) dX4_init_63 fun e9 => ?_
  refine h_putF C 0 (k := 6) rfl rfl uw_X4 tyX4_ok nmX4 (by decide) tw_71 rfl rfl rfl rfl rfl (Nat.le_of_ble_eq_true rfl) dX4_init_66 ?_
  refine h_aload_n C dX4_init_69 rfl ?_
  refine h_iconst C dX4_init_70 ?_
  refine h_put C 0 (k := 7) rfl rfl uw_X4 tyX4_ok nmX4 (by decide) tw_72 rfl rfl rfl rfl (Nat.le_of_ble_eq_true rfl) dX4_init_71 ?_
  have := h_vret (tl := oPlan (zC X) a (fun i => if i = 0 then q0 else if i = 1 then e1 0 else if i = 2 then q2 else if i = 3 then e3 0 else if i = 4 then q4 else if i = 5 then e5 0 else if i = 6 then q6 else if i = 7 then e7 0 else if i = 8 then q8 else e9 0)) C hR (fun i => if i = 0 then q0 else if i = 1 then e1 0 else if i = 2 then q2 else if i = 3 then e3 0 else if i = 4 then q4 else if i = 5 then e5 0 else if i = 6 then q6 else if i = 7 then e7 0 else if i = 8 then q8 else e9 0) rfl dX4_init_74 (lv := [some (.ref a)])
  rw [hc, hs] at this
  exact this
def oOut (C : ClassId × ClassId × ClassId) (a : Nat) (as : Nat → Nat) : va_W := [(a, .inr (3, [.ref (as 0), .int (jI 0), .int (jI 0), .int (jI 0), .int (jI 0)]))] ++ oRow C (as 0) (fun i => as (i + 1))
theorem k_out (l : Launch) : Kt l 2 yX3_init cX3_init 1 3 [.null, .int (jI 0), .int (jI 0), .int (jI 0), .int (jI 0)] 3 243 oOut := by
  refine Kt.of (by decide +kernel) rfl (Nat.le_of_ble_eq_true rfl) fun X w a hX hc hs C hR => ?_
  refine h_aload_n C dX3_init_0 rfl ?_
  refine h_obj C (by decide) (tT_i (i := 138) (by decide +kernel) (by decide +kernel)) rfl (Nat.le_of_ble_eq_true rfl) dX3_init_1 ?_
  refine h_aload_n C dX3_init_4 rfl ?_
  refine h_new (ci := 5) C tw_139 tw_140 tw_7 rfl uw_X5 tyX5_ok (fs := [.null, .null, .int (jI 0)]) (by decide +kernel) (by omega) (by omega) dX3_init_5 fun q0 => ?_
  refine h_dup C dX3_init_8 rfl ?_
  refine h_initN C (k_row (zL X)) (by decide) tw_143 tw_142 tw_7 rfl ⟨by decide +kernel, by decide +kernel, by decide +kernel⟩ ⟨by decide, by decide⟩ (by omega) (by omega) rfl (Nat.le_of_ble_eq_true rfl) dX3_init_9 fun e1 => ?_
  refine h_putF C 0 (k := 0) rfl rfl uw_X3 tyX3_ok nmX3 (by decide) tw_155 rfl rfl rfl rfl rfl (Nat.le_of_ble_eq_true rfl) dX3_init_12 ?_
  refine h_aload_n C dX3_init_15 rfl ?_
  refine h_iconst C dX3_init_16 ?_
  refine h_put C 0 (k := 1) rfl rfl uw_X3 tyX3_ok nmX3 (by decide) tw_157 rfl rfl rfl rfl (Nat.le_of_ble_eq_true rfl) dX3_init_17 ?_
  refine h_aload_n C dX3_init_20 rfl ?_
  refine h_iconst C dX3_init_21 ?_
  refine h_put C 0 (k := 2) rfl rfl uw_X3 tyX3_ok nmX3 (by decide) tw_159 rfl rfl rfl rfl (Nat.le_of_ble_eq_true rfl) dX3_init_22 ?_
  refine h_aload_n C dX3_init_25 rfl ?_
  refine h_iconst C dX3_init_26 ?_
  refine h_put C 0 (k := 3) rfl rfl uw_X3 tyX3_ok nmX3 (by decide) tw_161 rfl rfl rfl rfl (Nat.le_of_ble_eq_true rfl) dX3_init_27 ?_
  refine h_aload_n C dX3_init_30 rfl ?_
  refine h_iconst C dX3_init_31 ?_
  refine h_put C 0 (k := 4) rfl rfl uw_X3 tyX3_ok nmX3 (by decide) tw_163 rfl rfl rfl rfl (Nat.le_of_ble_eq_true rfl) dX3_init_32 ?_
  have := h_vret (tl := oOut (zC X) a (fun i => if i = 0 then q0 else e1 (i - 1))) C hR (fun i => if i = 0 then q0 else e1 (i - 1)) rfl dX3_init_35 (lv := [some (.ref a)])
  rw [hc, hs] at this
  exact this
