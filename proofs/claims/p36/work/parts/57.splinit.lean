/-! the constructor of the splitting -/
theorem h_iinc {X : z_X} {cc : ByteArray} {own : String} {d n : Nat} {w : va_W} {cells slots : Nat} {pc : Nat} {lv : List (Option Value)} {st : List Value} (C : Cw cc own d n X) {k : Nat} {a x : Int} (hd : decode cc pc = .ok (.iinc k a, 3)) (hv : lv[k]? = some (some (.int (jI x)))) (kk : Gw X w cells slots (pc + 3) (z_st lv k (.int (jI (x + a)))) st) : Gw X w cells slots pc lv st := by
  obtain ⟨p, l, e, R, s, m, args, below, meth, c, Q, D, ad, ⟨cI, cJ, cO⟩, lo, cs, sl⟩ := X
  obtain ⟨hx, hb, -⟩ := C
  intro H locs ls hP hD hS hl
  obtain ⟨q, hq⟩ := List.getElem?_of_mem ((zal_mem 0 lv).mpr ⟨Nat.zero_le _, hv⟩)
  exact lv_iinc hx hb hd hl hq (jI_add x a) (List.getElem?_eq_some_iff.mp hv).1 rfl fun ls' hl' => kk H locs ls' hP hD hS (by rw [zst_len]; exact zst_has hl')
def oSpl (C : ClassId × ClassId × ClassId) (a : Nat) (as : Nat → Nat) : va_W := [(a, .inr (6, [.int (jI 4), .int (jI 4), .ref (as 0), .ref (as 1), .ref (as 2)])), (as 0, .inl (C.2.2, 3, .inr (.inr (.inr (.inr (va_up (va_up (va_up (fun _ => none) 0 (some (as 5))) 1 (some (as 11))) 2 (some (as 17)))))))), (as 1, .inl (C.2.2, 3, .inr (.inr (.inr (.inr (va_up (va_up (va_up (fun _ => none) 0 (some (as 8))) 1 (some (as 14))) 2 (some (as 20))))))))] ++ oRow C (as 2) (fun i => as (3 + i)) ++ oRow C (as 5) (fun i => as (6 + i)) ++ oRow C (as 8) (fun i => as (9 + i)) ++ oRow C (as 11) (fun i => as (12 + i)) ++ oRow C (as 14) (fun i => as (15 + i)) ++ oRow C (as 17) (fun i => as (18 + i)) ++ oRow C (as 20) (fun i => as (21 + i))
set_option maxHeartbeats 4000000 in
set_option maxRecDepth 20000 in
theorem k_spl (l : Launch) : Kt l 2 yX6_init cX6_init 2 6 [.int (jI 0), .int (jI 0), .null, .null, .null] 23 1707 oSpl := by
  refine Kt.of (by decide +kernel) rfl (Nat.le_of_ble_eq_true rfl) fun X w a hX hc hs C hR => ?_
  refine h_aload_n C dX6_init_0 rfl ?_
  refine h_obj C (by decide) (tT_i (i := 181) (by decide +kernel) (by decide +kernel)) rfl (Nat.le_of_ble_eq_true rfl) dX6_init_1 ?_
  refine h_aload_n C dX6_init_4 rfl ?_
  refine h_iconst C dX6_init_5 ?_
  refine h_put C 0 (k := 0) rfl rfl uw_X6 tyX6_ok nmX6 (by decide) tw_184 rfl rfl rfl rfl (Nat.le_of_ble_eq_true rfl) dX6_init_6 ?_
  refine h_aload_n C dX6_init_9 rfl ?_
  refine h_iconst C dX6_init_10 ?_
  refine h_put C 0 (k := 1) rfl rfl uw_X6 tyX6_ok nmX6 (by decide) tw_186 rfl rfl rfl rfl (Nat.le_of_ble_eq_true rfl) dX6_init_11 ?_
  refine h_aload_n C dX6_init_14 rfl ?_
  refine h_iconst C dX6_init_15 ?_
  refine h_newQ (N := 3) C (by decide) (by omega) (by omega) tw_182 dX6_init_16 fun q0 => ?_
  refine h_putF C 0 (k := 2) rfl rfl uw_X6 tyX6_ok nmX6 (by decide) tw_188 rfl rfl rfl rfl rfl (Nat.le_of_ble_eq_true rfl) dX6_init_19 ?_
  refine h_aload_n C dX6_init_22 rfl ?_
  refine h_iconst C dX6_init_23 ?_
  refine h_newQ (N := 3) C (by decide) (by omega) (by omega) tw_182 dX6_init_24 fun q1 => ?_
  refine h_putF C 0 (k := 3) rfl rfl uw_X6 tyX6_ok nmX6 (by decide) tw_189 rfl rfl rfl rfl rfl (Nat.le_of_ble_eq_true rfl) dX6_init_27 ?_
  refine h_aload_n C dX6_init_30 rfl ?_
  refine h_new (ci := 5) C tw_182 tw_140 tw_7 rfl uw_X5 tyX5_ok (fs := [.null, .null, .int (jI 0)]) (by decide +kernel) (by omega) (by omega) dX6_init_31 fun q2 => ?_
  refine h_dup C dX6_init_34 rfl ?_
  refine h_initN C (k_row (zL X)) (by decide) tw_143 tw_142 tw_7 rfl ⟨by decide +kernel, by decide +kernel, by decide +kernel⟩ ⟨by decide, by decide⟩ (by omega) (by omega) rfl (Nat.le_of_ble_eq_true rfl) dX6_init_35 fun e3 => ?_
  refine h_putF C 0 (k := 4) rfl rfl uw_X6 tyX6_ok nmX6 (by decide) tw_190 rfl rfl rfl rfl rfl (Nat.le_of_ble_eq_true rfl) dX6_init_38 ?_
  refine h_iconst C dX6_init_41 ?_
  refine h_istore_n C dX6_init_42 (Nat.le_of_ble_eq_true rfl) ?_
  show Gw X _ _ _ _ [_, _] _
  refine h_iload_n C dX6_init_43 rfl ?_
  refine h_iconst C dX6_init_44 ?_
  refine h_icmp_no (tgt := 80) C dX6_init_45 rfl (by decide +kernel) ?_
  refine h_aload_n C dX6_init_48 rfl ?_
  refine h_getf C 0 (k := 2) rfl rfl uw_X6 (by decide) tw_188 rfl dX6_init_49 ?_
  refine h_iload_n C dX6_init_52 rfl ?_
  refine h_new (ci := 5) C tw_182 tw_140 tw_7 rfl uw_X5 tyX5_ok (fs := [.null, .null, .int (jI 0)]) (by decide +kernel) (by omega) (by omega) dX6_init_53 fun q4 => ?_
  refine h_dup C dX6_init_56 rfl ?_
  refine h_initN C (k_row (zL X)) (by decide) tw_143 tw_142 tw_7 rfl ⟨by decide +kernel, by decide +kernel, by decide +kernel⟩ ⟨by decide, by decide⟩ (by omega) (by omega) rfl (Nat.le_of_ble_eq_true rfl) dX6_init_57 fun e5 => ?_
  refine h_ast C 1 6 0 rfl rfl (by decide) (by decide) dX6_init_60 ?_
  refine h_aload_n C dX6_init_61 rfl ?_
  refine h_getf C 0 (k := 3) rfl rfl uw_X6 (by decide) tw_189 rfl dX6_init_62 ?_
  refine h_iload_n C dX6_init_65 rfl ?_
  refine h_new (ci := 5) C tw_182 tw_140 tw_7 rfl uw_X5 tyX5_ok (fs := [.null, .null, .int (jI 0)]) (by decide +kernel) (by omega) (by omega) dX6_init_66 fun q6 => ?_
  refine h_dup C dX6_init_69 rfl ?_
  refine h_initN C (k_row (zL X)) (by decide) tw_143 tw_142 tw_7 rfl ⟨by decide +kernel, by decide +kernel, by decide +kernel⟩ ⟨by decide, by decide⟩ (by omega) (by omega) rfl (Nat.le_of_ble_eq_true rfl) dX6_init_70 fun e7 => ?_
  refine h_ast C 2 9 0 rfl rfl (by decide) (by decide) dX6_init_73 ?_
  refine h_iinc C dX6_init_74 rfl ?_
  show Gw X _ _ _ _ [_, _] _
  refine h_goto (tgt := 43) C dX6_init_77 rfl ?_
  refine h_iload_n C dX6_init_43 rfl ?_
  refine h_iconst C dX6_init_44 ?_
  refine h_icmp_no (tgt := 80) C dX6_init_45 rfl (by decide +kernel) ?_
  refine h_aload_n C dX6_init_48 rfl ?_
  refine h_getf C 0 (k := 2) rfl rfl uw_X6 (by decide) tw_188 rfl dX6_init_49 ?_
  refine h_iload_n C dX6_init_52 rfl ?_
  refine h_new (ci := 5) C tw_182 tw_140 tw_7 rfl uw_X5 tyX5_ok (fs := [.null, .null, .int (jI 0)]) (by decide +kernel) (by omega) (by omega) dX6_init_53 fun q8 => ?_
  refine h_dup C dX6_init_56 rfl ?_
  refine h_initN C (k_row (zL X)) (by decide) tw_143 tw_142 tw_7 rfl ⟨by decide +kernel, by decide +kernel, by decide +kernel⟩ ⟨by decide, by decide⟩ (by omega) (by omega) rfl (Nat.le_of_ble_eq_true rfl) dX6_init_57 fun e9 => ?_
  refine h_ast C 1 12 1 rfl rfl (by decide) (by decide) dX6_init_60 ?_
  refine h_aload_n C dX6_init_61 rfl ?_
  refine h_getf C 0 (k := 3) rfl rfl uw_X6 (by decide) tw_189 rfl dX6_init_62 ?_
  refine h_iload_n C dX6_init_65 rfl ?_
  refine h_new (ci := 5) C tw_182 tw_140 tw_7 rfl uw_X5 tyX5_ok (fs := [.null, .null, .int (jI 0)]) (by decide +kernel) (by omega) (by omega) dX6_init_66 fun q10 => ?_
  refine h_dup C dX6_init_69 rfl ?_
  refine h_initN C (k_row (zL X)) (by decide) tw_143 tw_142 tw_7 rfl ⟨by decide +kernel, by decide +kernel, by decide +kernel⟩ ⟨by decide, by decide⟩ (by omega) (by omega) rfl (Nat.le_of_ble_eq_true rfl) dX6_init_70 fun e11 => ?_
  refine h_ast C 2 15 1 rfl rfl (by decide) (by decide) dX6_init_73 ?_
  refine h_iinc C dX6_init_74 rfl ?_
  show Gw X _ _ _ _ [_, _] _
  refine h_goto (tgt := 43) C dX6_init_77 rfl ?_
  refine h_iload_n C dX6_init_43 rfl ?_
  refine h_iconst C dX6_init_44 ?_
  refine h_icmp_no (tgt := 80) C dX6_init_45 rfl (by decide +kernel) ?_
  refine h_aload_n C dX6_init_48 rfl ?_
  refine h_getf C 0 (k := 2) rfl rfl uw_X6 (by decide) tw_188 rfl dX6_init_49 ?_
  refine h_iload_n C dX6_init_52 rfl ?_
  refine h_new (ci := 5) C tw_182 tw_140 tw_7 rfl uw_X5 tyX5_ok (fs := [.null, .null, .int (jI 0)]) (by decide +kernel) (by omega) (by omega) dX6_init_53 fun q12 => ?_
  refine h_dup C dX6_init_56 rfl ?_
  refine h_initN C (k_row (zL X)) (by decide) tw_143 tw_142 tw_7 rfl ⟨by decide +kernel, by decide +kernel, by decide +kernel⟩ ⟨by decide, by decide⟩ (by omega) (by omega) rfl (Nat.le_of_ble_eq_true rfl) dX6_init_57 fun e13 => ?_
  refine h_ast C 1 18 2 rfl rfl (by decide) (by decide) dX6_init_60 ?_
  refine h_aload_n C dX6_init_61 rfl ?_
  refine h_getf C 0 (k := 3) rfl rfl uw_X6 (by decide) tw_189 rfl dX6_init_62 ?_
  refine h_iload_n C dX6_init_65 rfl ?_
  refine h_new (ci := 5) C tw_182 tw_140 tw_7 rfl uw_X5 tyX5_ok (fs := [.null, .null, .int (jI 0)]) (by decide +kernel) (by omega) (by omega) dX6_init_66 fun q14 => ?_
  refine h_dup C dX6_init_69 rfl ?_
  refine h_initN C (k_row (zL X)) (by decide) tw_143 tw_142 tw_7 rfl ⟨by decide +kernel, by decide +kernel, by decide +kernel⟩ ⟨by decide, by decide⟩ (by omega) (by omega) rfl (Nat.le_of_ble_eq_true rfl) dX6_init_70 fun e15 => ?_
  refine h_ast C 2 21 2 rfl rfl (by decide) (by decide) dX6_init_73 ?_
  refine h_iinc C dX6_init_74 rfl ?_
  show Gw X _ _ _ _ [_, _] _
  refine h_goto (tgt := 43) C dX6_init_77 rfl ?_
  refine h_iload_n C dX6_init_43 rfl ?_
  refine h_iconst C dX6_init_44 ?_
  refine h_icmp_yes (tgt := 80) C dX6_init_45 rfl (by decide +kernel) ?_
  have := h_vret (tl := oSpl (zC X) a (fun i => if i = 0 then q0 else if i = 1 then q1 else if i = 2 then q2 else if i = 3 then e3 0 else if i = 4 then e3 1 else if i = 5 then q4 else if i = 6 then e5 0 else if i = 7 then e5 1 else if i = 8 then q6 else if i = 9 then e7 0 else if i = 10 then e7 1 else if i = 11 then q8 else if i = 12 then e9 0 else if i = 13 then e9 1 else if i = 14 then q10 else if i = 15 then e11 0 else if i = 16 then e11 1 else if i = 17 then q12 else if i = 18 then e13 0 else if i = 19 then e13 1 else if i = 20 then q14 else if i = 21 then e15 0 else e15 1)) C hR (fun i => if i = 0 then q0 else if i = 1 then q1 else if i = 2 then q2 else if i = 3 then e3 0 else if i = 4 then e3 1 else if i = 5 then q4 else if i = 6 then e5 0 else if i = 7 then e5 1 else if i = 8 then q6 else if i = 9 then e7 0 else if i = 10 then e7 1 else if i = 11 then q8 else if i = 12 then e9 0 else if i = 13 then e9 1 else if i = 14 then q10 else if i = 15 then e11 0 else if i = 16 then e11 1 else if i = 17 then q12 else if i = 18 then e13 0 else if i = 19 then e13 1 else if i = 20 then q14 else if i = 21 then e15 0 else e15 1) rfl dX6_init_80 (lv := [some (.ref a), some (.int (jI (0 + 1 + 1 + 1)))])
  rw [hc, hs] at this
  exact this
