/-! the sorter's constructor -/
theorem ms_loop0 {X : z_X} {w : va_W} (C : Cw cX8_init RX8 3 2 X) {a q cells slots : Nat} {fs : List Value} {t0 : va_W} (hfs0 : fs[0]? = some (.ref q)) (hcs : cells + 3 * 12 = zcs X) (hsl : slots + 243 * 12 = zsl X)
    (kk : ∀ (B : Nat → Nat) (E : Nat → Nat → Nat), Gw X (w ++ ((a, .inr (8, fs)) :: (q, .inl ((zC X).2.2, 12, .inr (.inr (.inr (.inr (msF B 12)))))) :: (t0 ++ msR (zC X) B E 12))) (zcs X) (zsl X) 122 [some (.ref a), some (.int (jI ((12 : Nat) : Int)))] []) :
    Gw X (w ++ ((a, .inr (8, fs)) :: (q, .inl ((zC X).2.2, 12, .inr (.inr (.inr (.inr (fun _ => none)))))) :: t0)) cells slots 122 [some (.ref a), some (.int (jI ((0 : Nat) : Int)))] [] := by
  have h := ms_loop C hfs0 kk 12 0 rfl cells slots hcs hsl (fun _ => 0) (fun _ _ => 0)
  rw [show msR (zC X) (fun _ => 0) (fun _ _ => 0) 0 = [] from rfl, List.append_nil] at h
  exact h
set_option maxHeartbeats 4000000 in
set_option maxRecDepth 20000 in
theorem k_ms (l : Launch) : Kt l 3 yX8_init cX8_init 2 8 [.null, .int (jI 0), .int (jI 0), .int (jI 0), .int (jI 0), .int (jI 0), .int (jI 0), .null, .null, .null, .null, .null, .null, .null] 96 6329 oMs := by
  refine Kt.of (by decide +kernel) rfl (Nat.le_of_ble_eq_true rfl) fun X w a hX hc hs C hR => ?_
  refine h_aload_n C dX8_init_0 rfl ?_
  refine h_obj C (by decide) (tT_i (i := 22) (by decide +kernel) (by decide +kernel)) rfl (Nat.le_of_ble_eq_true rfl) dX8_init_1 ?_
  refine h_aload_n C dX8_init_4 rfl ?_
  refine h_bipush C dX8_init_5 rfl ?_
  refine h_newQ (N := 12) C (by decide) (by omega) (by omega) tw_25 dX8_init_7 fun q0 => ?_
  refine h_putF C 0 (k := 0) rfl rfl uw_X8 tyX8_ok nmX8 (by decide) tw_214 rfl rfl rfl rfl rfl (Nat.le_of_ble_eq_true rfl) dX8_init_10 ?_
  show Gw X (w ++ ((a, .inr (8, [.ref q0, .int (jI 0), .int (jI 0), .int (jI 0), .int (jI 0), .int (jI 0), .int (jI 0), .null, .null, .null, .null, .null, .null, .null])) :: (q0, .inl ((zC X).2.2, 12, .inr (.inr (.inr (.inr (fun _ => none)))))) :: [])) _ _ _ _ _
  refine h_aload_n C dX8_init_13 rfl ?_
  refine h_iconst C dX8_init_14 ?_
  refine h_put C 0 (k := 1) rfl rfl uw_X8 tyX8_ok nmX8 (by decide) tw_215 rfl rfl rfl rfl (Nat.le_of_ble_eq_true rfl) dX8_init_15 ?_
  show Gw X (w ++ ((a, .inr (8, [.ref q0, .int (jI 0), .int (jI 0), .int (jI 0), .int (jI 0), .int (jI 0), .int (jI 0), .null, .null, .null, .null, .null, .null, .null])) :: (q0, .inl ((zC X).2.2, 12, .inr (.inr (.inr (.inr (fun _ => none)))))) :: [])) _ _ _ _ _
  refine h_aload_n C dX8_init_18 rfl ?_
  refine h_iconst C dX8_init_19 ?_
  refine h_put C 0 (k := 2) rfl rfl uw_X8 tyX8_ok nmX8 (by decide) tw_216 rfl rfl rfl rfl (Nat.le_of_ble_eq_true rfl) dX8_init_20 ?_
  show Gw X (w ++ ((a, .inr (8, [.ref q0, .int (jI 0), .int (jI 4), .int (jI 0), .int (jI 0), .int (jI 0), .int (jI 0), .null, .null, .null, .null, .null, .null, .null])) :: (q0, .inl ((zC X).2.2, 12, .inr (.inr (.inr (.inr (fun _ => none)))))) :: [])) _ _ _ _ _
  refine h_aload_n C dX8_init_23 rfl ?_
  refine h_iconst C dX8_init_24 ?_
  refine h_put C 0 (k := 3) rfl rfl uw_X8 tyX8_ok nmX8 (by decide) tw_217 rfl rfl rfl rfl (Nat.le_of_ble_eq_true rfl) dX8_init_25 ?_
  show Gw X (w ++ ((a, .inr (8, [.ref q0, .int (jI 0), .int (jI 4), .int (jI 4), .int (jI 0), .int (jI 0), .int (jI 0), .null, .null, .null, .null, .null, .null, .null])) :: (q0, .inl ((zC X).2.2, 12, .inr (.inr (.inr (.inr (fun _ => none)))))) :: [])) _ _ _ _ _
  refine h_aload_n C dX8_init_28 rfl ?_
  refine h_iconst C dX8_init_29 ?_
  refine h_put C 0 (k := 4) rfl rfl uw_X8 tyX8_ok nmX8 (by decide) tw_218 rfl rfl rfl rfl (Nat.le_of_ble_eq_true rfl) dX8_init_30 ?_
  show Gw X (w ++ ((a, .inr (8, [.ref q0, .int (jI 0), .int (jI 4), .int (jI 4), .int (jI 0), .int (jI 0), .int (jI 0), .null, .null, .null, .null, .null, .null, .null])) :: (q0, .inl ((zC X).2.2, 12, .inr (.inr (.inr (.inr (fun _ => none)))))) :: [])) _ _ _ _ _
  refine h_aload_n C dX8_init_33 rfl ?_
  refine h_iconst C dX8_init_34 ?_
  refine h_put C 0 (k := 5) rfl rfl uw_X8 tyX8_ok nmX8 (by decide) tw_219 rfl rfl rfl rfl (Nat.le_of_ble_eq_true rfl) dX8_init_35 ?_
  show Gw X (w ++ ((a, .inr (8, [.ref q0, .int (jI 0), .int (jI 4), .int (jI 4), .int (jI 0), .int (jI 0), .int (jI 0), .null, .null, .null, .null, .null, .null, .null])) :: (q0, .inl ((zC X).2.2, 12, .inr (.inr (.inr (.inr (fun _ => none)))))) :: [])) _ _ _ _ _
  refine h_aload_n C dX8_init_38 rfl ?_
  refine h_iconst C dX8_init_39 ?_
  refine h_put C 0 (k := 6) rfl rfl uw_X8 tyX8_ok nmX8 (by decide) tw_220 rfl rfl rfl rfl (Nat.le_of_ble_eq_true rfl) dX8_init_40 ?_
  show Gw X (w ++ ((a, .inr (8, [.ref q0, .int (jI 0), .int (jI 4), .int (jI 4), .int (jI 0), .int (jI 0), .int (jI 0), .null, .null, .null, .null, .null, .null, .null])) :: (q0, .inl ((zC X).2.2, 12, .inr (.inr (.inr (.inr (fun _ => none)))))) :: [])) _ _ _ _ _
  refine h_aload_n C dX8_init_43 rfl ?_
  refine h_new (ci := 4) C tw_27 tw_28 tw_2 rfl uw_X4 tyX4_ok (fs := [.null, .null, .null, .int (jI 0), .int (jI 0), .null, .null, .int (jI 0)]) (by decide +kernel) (by omega) (by omega) dX8_init_44 fun q1 => ?_
  refine h_dup C dX8_init_47 rfl ?_
  refine h_initN C (k_plan (zL X)) (by decide) tw_31 tw_30 tw_2 rfl ⟨by decide +kernel, by decide +kernel, by decide +kernel⟩ ⟨by decide, by decide⟩ (by omega) (by omega) rfl (Nat.le_of_ble_eq_true rfl) dX8_init_48 fun e2 => ?_
  refine h_putF C 0 (k := 7) rfl rfl uw_X8 tyX8_ok nmX8 (by decide) tw_221 rfl rfl rfl rfl rfl (Nat.le_of_ble_eq_true rfl) dX8_init_51 ?_
  show Gw X (w ++ ((a, .inr (8, [.ref q0, .int (jI 0), .int (jI 4), .int (jI 4), .int (jI 0), .int (jI 0), .int (jI 0), .ref q1, .null, .null, .null, .null, .null, .null])) :: (q0, .inl ((zC X).2.2, 12, .inr (.inr (.inr (.inr (fun _ => none)))))) :: (oPlan (zC X) q1 e2))) _ _ _ _ _
  refine h_aload_n C dX8_init_54 rfl ?_
  refine h_new (ci := 4) C tw_27 tw_28 tw_2 rfl uw_X4 tyX4_ok (fs := [.null, .null, .null, .int (jI 0), .int (jI 0), .null, .null, .int (jI 0)]) (by decide +kernel) (by omega) (by omega) dX8_init_55 fun q3 => ?_
  refine h_dup C dX8_init_58 rfl ?_
  refine h_initN C (k_plan (zL X)) (by decide) tw_31 tw_30 tw_2 rfl ⟨by decide +kernel, by decide +kernel, by decide +kernel⟩ ⟨by decide, by decide⟩ (by omega) (by omega) rfl (Nat.le_of_ble_eq_true rfl) dX8_init_59 fun e4 => ?_
  refine h_putF C 0 (k := 8) rfl rfl uw_X8 tyX8_ok nmX8 (by decide) tw_222 rfl rfl rfl rfl rfl (Nat.le_of_ble_eq_true rfl) dX8_init_62 ?_
  show Gw X (w ++ ((a, .inr (8, [.ref q0, .int (jI 0), .int (jI 4), .int (jI 4), .int (jI 0), .int (jI 0), .int (jI 0), .ref q1, .ref q3, .null, .null, .null, .null, .null])) :: (q0, .inl ((zC X).2.2, 12, .inr (.inr (.inr (.inr (fun _ => none)))))) :: (oPlan (zC X) q1 e2 ++ oPlan (zC X) q3 e4))) _ _ _ _ _
  refine h_aload_n C dX8_init_65 rfl ?_
  refine h_new (ci := 0) C tw_90 tw_48 tw_4 rfl uw_X0 tyX0_ok (fs := [.null, .int (jI 0)]) (by decide +kernel) (by omega) (by omega) dX8_init_66 fun q5 => ?_
  refine h_dup C dX8_init_69 rfl ?_
  refine h_initN C (k_heap (zL X)) (by decide) tw_51 tw_50 tw_4 rfl ⟨by decide +kernel, by decide +kernel, by decide +kernel⟩ ⟨by decide, by decide⟩ (by omega) (by omega) rfl (Nat.le_of_ble_eq_true rfl) dX8_init_70 fun e6 => ?_
  refine h_putF C 0 (k := 9) rfl rfl uw_X8 tyX8_ok nmX8 (by decide) tw_223 rfl rfl rfl rfl rfl (Nat.le_of_ble_eq_true rfl) dX8_init_73 ?_
  show Gw X (w ++ ((a, .inr (8, [.ref q0, .int (jI 0), .int (jI 4), .int (jI 4), .int (jI 0), .int (jI 0), .int (jI 0), .ref q1, .ref q3, .ref q5, .null, .null, .null, .null])) :: (q0, .inl ((zC X).2.2, 12, .inr (.inr (.inr (.inr (fun _ => none)))))) :: (oPlan (zC X) q1 e2 ++ oPlan (zC X) q3 e4 ++ oHeap (zC X) q5 e6))) _ _ _ _ _
  refine h_aload_n C dX8_init_76 rfl ?_
  refine h_new (ci := 7) C tw_92 tw_93 tw_5 rfl uw_X7 tyX7_ok (fs := [.int (jI 0), .int (jI 0), .int (jI 0), .int (jI 0), .int (jI 0), .int (jI 0), .null, .null, .null, .null]) (by decide +kernel) (by omega) (by omega) dX8_init_77 fun q7 => ?_
  refine h_dup C dX8_init_80 rfl ?_
  refine h_initN C (k_tour (zL X)) (by decide) tw_96 tw_95 tw_5 rfl ⟨by decide +kernel, by decide +kernel, by decide +kernel⟩ ⟨by decide, by decide⟩ (by omega) (by omega) rfl (Nat.le_of_ble_eq_true rfl) dX8_init_81 fun e8 => ?_
  refine h_putF C 0 (k := 10) rfl rfl uw_X8 tyX8_ok nmX8 (by decide) tw_224 rfl rfl rfl rfl rfl (Nat.le_of_ble_eq_true rfl) dX8_init_84 ?_
  show Gw X (w ++ ((a, .inr (8, [.ref q0, .int (jI 0), .int (jI 4), .int (jI 4), .int (jI 0), .int (jI 0), .int (jI 0), .ref q1, .ref q3, .ref q5, .ref q7, .null, .null, .null])) :: (q0, .inl ((zC X).2.2, 12, .inr (.inr (.inr (.inr (fun _ => none)))))) :: (oPlan (zC X) q1 e2 ++ oPlan (zC X) q3 e4 ++ oHeap (zC X) q5 e6 ++ oTour (zC X) q7 e8))) _ _ _ _ _
  refine h_aload_n C dX8_init_87 rfl ?_
  refine h_new (ci := 3) C tw_133 tw_134 tw_6 rfl uw_X3 tyX3_ok (fs := [.null, .int (jI 0), .int (jI 0), .int (jI 0), .int (jI 0)]) (by decide +kernel) (by omega) (by omega) dX8_init_88 fun q9 => ?_
  refine h_dup C dX8_init_91 rfl ?_
  refine h_initN C (k_out (zL X)) (by decide) tw_137 tw_136 tw_6 rfl ⟨by decide +kernel, by decide +kernel, by decide +kernel⟩ ⟨by decide, by decide⟩ (by omega) (by omega) rfl (Nat.le_of_ble_eq_true rfl) dX8_init_92 fun e10 => ?_
  refine h_putF C 0 (k := 11) rfl rfl uw_X8 tyX8_ok nmX8 (by decide) tw_225 rfl rfl rfl rfl rfl (Nat.le_of_ble_eq_true rfl) dX8_init_95 ?_
  show Gw X (w ++ ((a, .inr (8, [.ref q0, .int (jI 0), .int (jI 4), .int (jI 4), .int (jI 0), .int (jI 0), .int (jI 0), .ref q1, .ref q3, .ref q5, .ref q7, .ref q9, .null, .null])) :: (q0, .inl ((zC X).2.2, 12, .inr (.inr (.inr (.inr (fun _ => none)))))) :: (oPlan (zC X) q1 e2 ++ oPlan (zC X) q3 e4 ++ oHeap (zC X) q5 e6 ++ oTour (zC X) q7 e8 ++ oOut (zC X) q9 e10))) _ _ _ _ _
  refine h_aload_n C dX8_init_98 rfl ?_
  refine h_new (ci := 6) C tw_176 tw_177 tw_8 rfl uw_X6 tyX6_ok (fs := [.int (jI 0), .int (jI 0), .null, .null, .null]) (by decide +kernel) (by omega) (by omega) dX8_init_99 fun q11 => ?_
  refine h_dup C dX8_init_102 rfl ?_
  refine h_init C (k_spl (zL X)) tw_178 tw_180 tw_179 tw_8 rfl ⟨by decide +kernel, by decide +kernel, by decide +kernel⟩ ⟨by decide, by decide⟩ (by omega) (by omega) rfl (Nat.le_of_ble_eq_true rfl) dX8_init_103 fun e12 => ?_
  refine h_putF C 0 (k := 12) rfl rfl uw_X8 tyX8_ok nmX8 (by decide) tw_226 rfl rfl rfl rfl rfl (Nat.le_of_ble_eq_true rfl) dX8_init_106 ?_
  show Gw X (w ++ ((a, .inr (8, [.ref q0, .int (jI 0), .int (jI 4), .int (jI 4), .int (jI 0), .int (jI 0), .int (jI 0), .ref q1, .ref q3, .ref q5, .ref q7, .ref q9, .ref q11, .null])) :: (q0, .inl ((zC X).2.2, 12, .inr (.inr (.inr (.inr (fun _ => none)))))) :: (oPlan (zC X) q1 e2 ++ oPlan (zC X) q3 e4 ++ oHeap (zC X) q5 e6 ++ oTour (zC X) q7 e8 ++ oOut (zC X) q9 e10 ++ oSpl (zC X) q11 e12))) _ _ _ _ _
  refine h_aload_n C dX8_init_109 rfl ?_
  refine h_new (ci := 1) C tw_202 tw_203 tw_9 rfl uw_X1 tyX1_ok (fs := [.null]) (by decide +kernel) (by omega) (by omega) dX8_init_110 fun q13 => ?_
  refine h_dup C dX8_init_113 rfl ?_
  refine h_initN C (k_kset (zL X)) (by decide) tw_206 tw_205 tw_9 rfl ⟨by decide +kernel, by decide +kernel, by decide +kernel⟩ ⟨by decide, by decide⟩ (by omega) (by omega) rfl (Nat.le_of_ble_eq_true rfl) dX8_init_114 fun e14 => ?_
  refine h_putF C 0 (k := 13) rfl rfl uw_X8 tyX8_ok nmX8 (by decide) tw_227 rfl rfl rfl rfl rfl (Nat.le_of_ble_eq_true rfl) dX8_init_117 ?_
  show Gw X (w ++ ((a, .inr (8, [.ref q0, .int (jI 0), .int (jI 4), .int (jI 4), .int (jI 0), .int (jI 0), .int (jI 0), .ref q1, .ref q3, .ref q5, .ref q7, .ref q9, .ref q11, .ref q13])) :: (q0, .inl ((zC X).2.2, 12, .inr (.inr (.inr (.inr (fun _ => none)))))) :: (oPlan (zC X) q1 e2 ++ oPlan (zC X) q3 e4 ++ oHeap (zC X) q5 e6 ++ oTour (zC X) q7 e8 ++ oOut (zC X) q9 e10 ++ oSpl (zC X) q11 e12 ++ oKset (zC X) q13 e14))) _ _ _ _ _
  refine h_iconst C dX8_init_120 ?_
  refine h_istore_n C dX8_init_121 (Nat.le_of_ble_eq_true rfl) ?_
  show Gw X _ _ _ _ [some (.ref a), some (.int (jI ((0 : Nat) : Int)))] _
  refine ms_loop0 C rfl (by omega) (by omega) fun B E => ?_
  refine h_iload_n C dX8_init_122 rfl ?_
  refine h_bipush C dX8_init_123 rfl ?_
  refine h_icmp_yes (tgt := 147) C dX8_init_125 rfl (by decide +kernel) ?_
  have := h_vret (tl := oMs (zC X) a (msAs q0 q1 e2 q3 e4 q5 e6 q7 e8 q9 e10 q11 e12 q13 e14 B E)) C hR (msAs q0 q1 e2 q3 e4 q5 e6 q7 e8 q9 e10 q11 e12 q13 e14 B E) rfl dX8_init_147 (lv := [some (.ref a), some (.int (jI ((12 : Nat) : Int)))])
  rw [oMs_at] at this
  exact this
