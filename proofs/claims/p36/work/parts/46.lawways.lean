/-! the law: the four ways -/
/-- what is the same as long as nothing but asking was done -/
def lwD (M : zM) (sm9 : Int64) (c pg mem : Nat) (F : Nat → List (Int × Int)) : Prop := ∃ (p9 : Int) (rs : List Int) (z : zZ), z.2.2.2.1.length = z.2.2.2.2.length ∧ zPl M 0 p9 rs z ∧ sm9 = dgS c pg mem (M 95 4) (M 95 5) (M 95 6) (if M 84 0 = 0 then 0 else M 84 3) rs z F ∧ (M 84 0 = 0 ∨ M 84 0 = 1)
theorem lwD.same {M M' : zM} {sm9 : Int64} {c pg mem : Nat} {F : Nat → List (Int × Int)} (h : lwD M sm9 c pg mem F) (hf : zFq M M') : lwD M' sm9 c pg mem F := by
  obtain ⟨p9, rs, z, h1, h2, h3, h4⟩ := h
  have e95 := hf 95 (by omega) (by omega) (by omega) (by omega) (by omega)
  have e84 := hf 84 (by omega) (by omega) (by omega) (by omega) (by omega)
  exact ⟨p9, rs, z, h1, h2.same (by omega) (fun o h => hf o (by omega) (by omega) (by omega) (by omega) (by omega)), by rw [e95, e84]; exact h3, by rw [e84]; exact h4⟩
set_option maxHeartbeats 4000000 in
set_option maxRecDepth 10000 in
theorem lw_ways {X : z_X} (C : Cx cL_law RL (some .boolean) 100 18 X) (hend : zHend X) {n pg mem : Nat} {L0 L1 : List (Int × Int)} (H : lwH n L0 L1 pg mem) {sm9 : Int64} {M : zM} (hS : zSt M 2 pg mem (lwF L0 L1 pg mem)) (hD : lwD M sm9 2 pg mem (lwF L0 L1 pg mem)) : G X M 170 [none, some (.ref (zA X 95)), some (.int (jI (pg : Int))), some (.int (jI (mem : Int))), some (.int (jI (n : Int))), some (.long sm9), none, none, none, none, none, none, none, none, none, none, none, none] [] := by
  have H0 := H
  obtain ⟨hb0, hb1, hl0, hn, hl1, hl2, hpg, hm⟩ := H
  have hA := srL_len L0
  have bA := srL_in (L := L0) (by omega) hb0
  have uA := srL_up (L := L0) (by omega)
  have hF2 : ∀ f, f < 2 → zIn (lwF L0 L1 pg mem f) ∧ (lwF L0 L1 pg mem f).length ≤ 100 := fun f hf => by
    by_cases q : f = 0
    · subst q; exact ⟨hb0, show L0.length ≤ 100 by omega⟩
    · obtain rfl : f = 1 := by omega
      exact ⟨hb1, show L1.length ≤ 100 by omega⟩
  obtain ⟨p1, p2, p3⟩ : 6 ≤ mem * pg ∧ mem * pg ≤ 30 ∧ (pg : Int) * (mem : Int) = ((mem * pg : Nat) : Int) := by
    refine ⟨Nat.mul_le_mul hm.1 hpg.1, Nat.mul_le_mul hm.2 hpg.2, ?_⟩
    rw [Int.natCast_mul, Int.mul_comm]
  have lp : ∀ (fk : Nat) (w : Nat) (M : zM), 10 - w < fk → w ≤ 4 → zSt M (2 + w) pg mem (lwF L0 L1 pg mem) → (w = 0 → lwD M sm9 2 pg mem (lwF L0 L1 pg mem)) → G X M 173 [none, some (.ref (zA X 95)), some (.int (jI (pg : Int))), some (.int (jI (mem : Int))), some (.int (jI (n : Int))), some (.long sm9), none, some (.int (jI (w : Int))), none, none, none, none, none, none, none, none, none, none] [] := by
    intro fk
    induction fk with
    | zero => intro w M hk; exact absurd hk (Nat.not_lt_zero _)
    | succ fk ih =>
      intro w M hk w1 hS hD
      refine g_iload C dL_law_173 rfl ?_
      refine g_iconst C dL_law_175 ?_
      refine g_icmp_ge (tgt := 546) C dL_law_176 rfl (by omega) (by omega) (fun h176 => ?_) (fun h176 => ?_)
      · obtain rfl : w = 4 := by omega
        refine g_mask [false, true, false, false, true, false, false, false, false, false, false, false, false, false, false, false, false, false] rfl ?_
        show G X _ 546 [_, _, _, _, _, _, _, _, _, _, _, _, _, _, _, _, _, _] _
        exact lw_tour C hend H0 hS
      · obtain ⟨rep, hrep⟩ : ∃ rep : Bool, rep = decide (w % 2 = 1) := ⟨_, rfl⟩
        obtain ⟨least, hleast⟩ : ∃ least : Bool, least = decide (1 < w) := ⟨_, rfl⟩
        have k205 : G X M 205 [none, some (.ref (zA X 95)), some (.int (jI (pg : Int))), some (.int (jI (mem : Int))), some (.int (jI (n : Int))), some (.long sm9), none, some (.int (jI (w : Int))), some (.int (jI (bI rep))), none, none, none, none, none, none, none, none, none] [.int (jI (bI least))] := by
          refine g_istore C dL_law_205 (Nat.le_of_ble_eq_true rfl) ?_
          show G X _ 207 [_, _, _, _, _, _, _, _, _, _, _, _, _, _, _, _, _, _] _
          refine g_aload_n C dL_law_207 rfl ?_
          refine g_iconst C dL_law_208 ?_
          refine g_iload C dL_law_209 rfl ?_
          refine g_iload C dL_law_211 rfl ?_
          refine g_iload_n C dL_law_213 rfl ?_
          refine gc_sortCost C (by decide) tw_800 (Nat.le_of_ble_eq_true rfl) rfl dL_law_214 0 (by omega) (by omega) rep least pg mem (by omega) (by omega) hb0 (by omega) hS.1 hS.2.1 (hS.row (by omega) rfl) (fun x1 N1 ⟨x1e, f1⟩ => ?_)
          have s1 : zSt N1 (2 + w) pg mem (lwF L0 L1 pg mem) := hS.same (f1 95 (by omega) (by omega) (by omega) (by omega)) (fun o h => f1 o (by omega) (by omega) (by omega) (by omega))
          show G X _ 217 _ _
          refine g_istore C dL_law_217 (Nat.le_of_ble_eq_true rfl) ?_
          show G X _ 219 [_, _, _, _, _, _, _, _, _, _, _, _, _, _, _, _, _, _] _
          refine g_aload_n C dL_law_219 rfl ?_
          refine gc_read C (by decide) tw_476 (Nat.le_of_ble_eq_true rfl) rfl dL_law_220  (?_)
          refine g_aload_n C dL_law_223 rfl ?_
          refine gc_written C (by decide) tw_480 (Nat.le_of_ble_eq_true rfl) rfl dL_law_224  (?_)
          refine g_iadd C dL_law_227 ?_
          refine g_istore C dL_law_228 (Nat.le_of_ble_eq_true rfl) ?_
          show G X _ 230 [_, _, _, _, _, _, _, _, _, _, _, _, _, _, _, _, _, _] _
          refine g_aload_n C dL_law_230 rfl ?_
          refine g_iconst C dL_law_231 ?_
          refine g_iload C dL_law_232 rfl ?_
          refine g_iconst C dL_law_234 ?_
          refine gc_memoryFor C (by decide) tw_808 (Nat.le_of_ble_eq_true rfl) rfl dL_law_235 0 (by omega) (by omega) rep pg 1 (by omega) (by omega) hb0 (by omega) s1.1 s1.2.1 (s1.row (by omega) rfl) (fun x3 N3 ⟨x3a, x3b, f3m⟩ => ?_)
          have s3 : zSt N3 (2 + w) pg mem (lwF L0 L1 pg mem) := s1.same (f3m 95 (by omega) (by omega) (by omega) (by omega)) (fun o h => f3m o (by omega) (by omega) (by omega) (by omega))
          have q3 : zFq M N3 := (zFq.plan f1).trans (zFq.plan f3m)
          have k255 : ∀ N4 : zM, zFq M N4 → G X N4 255 [none, some (.ref (zA X 95)), some (.int (jI (pg : Int))), some (.int (jI (mem : Int))), some (.int (jI (n : Int))), some (.long sm9), none, some (.int (jI (w : Int))), some (.int (jI (bI rep))), some (.int (jI (bI least))), some (.int (jI x1)), some (.int (jI (N1 95 4 + N1 95 5))), some (.int (jI x3)), none, none, none, none, none] [] := by
            intro N4 f4
            have s4 : zSt N4 (2 + w) pg mem (lwF L0 L1 pg mem) := hS.same (f4 95 (by omega) (by omega) (by omega) (by omega) (by omega)) (fun o h => f4 o (by omega) (by omega) (by omega) (by omega) (by omega))
            refine g_aload_n C dL_law_255 rfl ?_
            refine g_iconst C dL_law_256 ?_
            refine g_iload C dL_law_257 rfl ?_
            refine g_iload C dL_law_259 rfl ?_
            refine g_iconst C dL_law_261 ?_
            refine gc_sort C (by decide) tw_484 (Nat.le_of_ble_eq_true rfl) rfl dL_law_262 0 (by omega) (by omega) rep least pg mem (by omega) (by omega) hb0 (by omega) s4.1 s4.2.1 s4.2.2.1 (s4.row (by omega) rfl) (fun x5 N5 ⟨a0, a1, a2, a3, a4, a5, a6, a7⟩ => ?_)
            subst a0
            have s5 : zSt N5 (2 + (w + 1)) pg mem (lwF L0 L1 pg mem) := s4.next (by omega) a1 (by unfold lwF; rw [if_neg (by omega), if_neg (by omega), if_pos (by omega)]) a2 a3 a4 (fun o h1 h2 h3 h4 => a7 o h2 h3 h4 (by omega) (by omega) (by omega) (by omega) (by omega) (by omega) (by omega) (by omega) (by omega) (by omega) (by omega))
            have hz := mkZ_ok (L := L0) (rep := rep) (least := least) (pg := pg) (mem := mem) (by omega) (by omega) hb0 (by omega)
            have hr := mkR_ok (L := L0) (rep := rep) (room := mem * pg) (by omega) hb0 (by omega)
            obtain ⟨f1a, f2a, f3⟩ := mg_facts hz.1 hz.2 hr
            have hfew := runs_few hr (by omega)
            rw [hl0] at hfew
            have hqb := Int.ediv_le_self (((mem * pg : Nat) : Int)) (show 0 ≤ (n : Int) + ((mem * pg : Nat) : Int) - 1 by omega)
            have hrl := hr.len
            have hml := hz.1.1
            have hm120 := a6.2.2.2.2.2.1.2.1
            have s5c : N5 95 1 = ((2 + (w + 1) : Nat) : Int) := s5.1
            have r2 : zRow N5 2 (srL L0) := s5.row (by omega) rfl
            show G X _ 265 _ _
            refine g_iload C dL_law_265 rfl ?_
            refine g_iconst C dL_law_267 ?_
            refine g_iadd C dL_law_268 ?_
            refine g_icmp_ne (tgt := 326) C dL_law_269 rfl (by omega) (by omega) (fun h269 => ?_) (fun h269 => ?_)
            · omega
            · refine g_aload_n C dL_law_272 rfl ?_
              refine gc_read C (by decide) tw_476 (Nat.le_of_ble_eq_true rfl) rfl dL_law_273  (?_)
              refine g_aload_n C dL_law_276 rfl ?_
              refine gc_written C (by decide) tw_480 (Nat.le_of_ble_eq_true rfl) rfl dL_law_277  (?_)
              refine g_iadd C dL_law_280 ?_
              refine g_iload C dL_law_281 rfl ?_
              show G X _ 283 _ _
              refine g_iload C dL_law_283 rfl ?_
              refine g_iadd C dL_law_285 ?_
              refine g_icmp_ne_eq (tgt := 326) C dL_law_286 rfl (by rw [a5, f4 95 (by omega) (by omega) (by omega) (by omega) (by omega), f1 95 (by omega) (by omega) (by omega) (by omega), x1e]) ?_
              show G X _ 289 _ _
              refine g_aload_n C dL_law_289 rfl ?_
              refine g_iload C dL_law_290 rfl ?_
              refine g_iconst C dL_law_292 ?_
              refine g_iadd C dL_law_293 ?_
              rw [show (w : Int) + 2 = ((2 + w : Nat) : Int) by omega]
              refine gc_order C (by decide) tw_435 (Nat.le_of_ble_eq_true rfl) rfl dL_law_294 (2 + w) (by omega) (by omega) s5c a1 bA (?_)
              rw [if_pos uA]
              obtain ⟨y, hy, hy2⟩ := dy_ok (dnB (srL L0))
              rw [hy]
              refine g_iconst C dL_law_297 ?_
              show G X _ 298 _ _
              refine g_irem C dL_law_298 (by omega) (by omega) ?_
              refine g_iconst C dL_law_299 ?_
              refine g_icmp_ne (tgt := 326) C dL_law_300 rfl (by omega) (by omega) (fun h300 => ?_) (fun h300 => ?_)
              · omega
              · refine g_aload_n C dL_law_303 rfl ?_
                refine g_iload C dL_law_304 rfl ?_
                refine g_iconst C dL_law_306 ?_
                refine g_iadd C dL_law_307 ?_
                rw [show (w : Int) + 2 = ((2 + w : Nat) : Int) by omega]
                refine gc_inversions C (by decide) tw_472 (Nat.le_of_ble_eq_true rfl) rfl dL_law_308 (2 + w) (by omega) (by omega) s5c a1 bA uA (?_)
                refine g_if_ne (tgt := 326) C dL_law_311 rfl (by omega) (fun h311 => ?_) (fun h311 => ?_)
                · omega
                · refine g_aload_n C dL_law_314 rfl ?_
                  refine g_iload C dL_law_315 rfl ?_
                  refine g_iconst C dL_law_317 ?_
                  refine g_iadd C dL_law_318 ?_
                  refine g_iconst C dL_law_319 ?_
                  rw [show (w : Int) + 2 = ((2 + w : Nat) : Int) by omega]
                  refine gc_L_isSame C (by decide) tw_851 (Nat.le_of_ble_eq_true rfl) rfl dL_law_320 (2 + w) 2 (by omega) (by omega) (by omega) bA s5c a1 r2 (?_)
                  show G X _ 323 _ _
                  refine g_if_ne (tgt := 328) C dL_law_323 rfl (by omega) (fun h323 => ?_) (fun h323 => ?_)
                  · have k540 : ∀ v13 v14 v15 : Option Value, G X N5 540 [none, some (.ref (zA X 95)), some (.int (jI (pg : Int))), some (.int (jI (mem : Int))), some (.int (jI (n : Int))), some (.long sm9), none, some (.int (jI (w : Int))), some (.int (jI (bI rep))), some (.int (jI (bI least))), some (.int (jI x1)), some (.int (jI (N1 95 4 + N1 95 5))), some (.int (jI x3)), v13, v14, v15, none, none] [] := by
                      intro v13 v14 v15
                      refine g_iinc C dL_law_540 rfl ?_
                      show G X _ 543 [_, _, _, _, _, _, _, _, _, _, _, _, _, _, _, _, _, _] _
                      refine g_goto (tgt := 173) C dL_law_543 rfl ?_
                      show G X _ 173 _ _
                      refine g_mask [false, true, true, true, true, true, false, true, false, false, false, false, false, false, false, false, false, false] rfl ?_
                      show G X _ 173 [_, _, _, _, _, _, _, _, _, _, _, _, _, _, _, _, _, _] _
                      exact ih (w + 1) N5 (by omega) (by omega) s5 (fun q => absurd q (by omega))
                    have k519 : ∀ v13 v14 v15 : Option Value, G X N5 519 [none, some (.ref (zA X 95)), some (.int (jI (pg : Int))), some (.int (jI (mem : Int))), some (.int (jI (n : Int))), some (.long sm9), none, some (.int (jI (w : Int))), some (.int (jI (bI rep))), some (.int (jI (bI least))), some (.int (jI x1)), some (.int (jI (N1 95 4 + N1 95 5))), some (.int (jI x3)), v13, v14, v15, none, none] [] := by
                      intro v13 v14 v15
                      have hbl := bI_in least
                      refine g_iload C dL_law_519 rfl ?_
                      refine g_if_ne (tgt := 540) C dL_law_521 rfl (by omega) (fun h521 => ?_) (fun h521 => ?_)
                      · exact k540 _ _ _
                      · refine g_aload_n C dL_law_524 rfl ?_
                        refine gc_merges C (by decide) tw_635 (Nat.le_of_ble_eq_true rfl) rfl dL_law_525 a6 (?_)
                        refine g_iconst C dL_law_528 ?_
                        refine g_icmp_gt (tgt := 540) C dL_law_529 rfl (by omega) (by omega) (fun h529 => ?_) (fun h529 => ?_)
                        · exact k540 _ _ _
                        · refine g_iload C dL_law_532 rfl ?_
                          refine g_iload_n C dL_law_534 rfl ?_
                          have hlf : least = false := by
                            cases least
                            · rfl
                            · exact absurd h521 (by decide)
                          have hx3 := x3a mem (by omega) (by omega) (by rw [← hlf]; omega)
                          refine g_icmp_le (tgt := 540) C dL_law_535 rfl (by omega) (by omega) (fun h535 => ?_) (fun h535 => ?_)
                          · exact k540 _ _ _
                          · omega
                    have lpm : ∀ (v13 : Int) (fk : Nat) (k : Nat), 200 - k < fk → k ≤ (mkZ L0 rep least pg mem).2.2.2.2.length → G X N5 426 [none, some (.ref (zA X 95)), some (.int (jI (pg : Int))), some (.int (jI (mem : Int))), some (.int (jI (n : Int))), some (.long sm9), none, some (.int (jI (w : Int))), some (.int (jI (bI rep))), some (.int (jI (bI least))), some (.int (jI x1)), some (.int (jI (N1 95 4 + N1 95 5))), some (.int (jI x3)), some (.int (jI v13)), some (.int (jI (((mkR L0 rep (mem * pg)).length : Int) - sg ((mkZ L0 rep least pg mem).2.2.2.1.take k)))), some (.int (jI (k : Int))), none, none] [] := by
                      intro v13 fk
                      induction fk with
                      | zero => intro k hk; exact absurd hk (Nat.not_lt_zero _)
                      | succ fk ih2 =>
                        intro k hk k1
                        refine g_iload C dL_law_426 rfl ?_
                        refine g_aload_n C dL_law_428 rfl ?_
                        refine gc_merges C (by decide) tw_635 (Nat.le_of_ble_eq_true rfl) rfl dL_law_429 a6 (?_)
                        refine g_icmp_ge (tgt := 481) C dL_law_432 rfl (by omega) (by omega) (fun h432 => ?_) (fun h432 => ?_)
                        · obtain rfl : k = (mkZ L0 rep least pg mem).2.2.2.2.length := by omega
                          rw [List.take_of_length_le (by omega)]
                          refine g_iload C dL_law_481 rfl ?_
                          refine g_iload C dL_law_483 rfl ?_
                          refine g_if_ne (tgt := 492) C dL_law_485 rfl (by omega) (fun h485 => ?_) (fun h485 => ?_)
                          · refine g_iconst C dL_law_492 ?_
                            refine g_icmp_ne (tgt := 538) C dL_law_493 rfl (by omega) (by omega) (fun h493 => ?_) (fun h493 => ?_)
                            · omega
                            · refine g_aload_n C dL_law_496 rfl ?_
                              refine gc_merges C (by decide) tw_635 (Nat.le_of_ble_eq_true rfl) rfl dL_law_497 a6 (?_)
                              refine g_if_le (tgt := 519) C dL_law_500 rfl (by omega) (fun h500 => ?_) (fun h500 => ?_)
                              · exact k519 _ _ _
                              · refine g_aload_n C dL_law_503 rfl ?_
                                refine g_aload_n C dL_law_504 rfl ?_
                                refine gc_merges C (by decide) tw_635 (Nat.le_of_ble_eq_true rfl) rfl dL_law_505 a6 (?_)
                                refine g_iconst C dL_law_508 ?_
                                refine g_isub C dL_law_509 ?_
                                refine g_iconst C dL_law_510 ?_
                                show G X _ 511 _ _
                                rw [show ((mkZ L0 rep least pg mem).2.2.2.2.length : Int) - 1 = (((mkZ L0 rep least pg mem).2.2.2.2.length - 1 : Nat) : Int) by omega]
                                refine gc_merge C (by decide) tw_639 (Nat.le_of_ble_eq_true rfl) rfl dL_law_511 ((mkZ L0 rep least pg mem).2.2.2.2.length - 1) true (by omega) (by omega) a6 (?_)
                                rw [if_pos rfl, f3 (by omega)]
                                refine g_iload C dL_law_514 rfl ?_
                                refine g_icmp_ne (tgt := 538) C dL_law_516 rfl (by omega) (by omega) (fun h516 => ?_) (fun h516 => ?_)
                                · omega
                                · exact k519 _ _ _
                          · refine g_iconst C dL_law_488 ?_
                            refine g_goto (tgt := 493) C dL_law_489 rfl ?_
                            show G X _ 493 _ _
                            refine g_icmp_ne (tgt := 538) C dL_law_493 rfl (by omega) (by omega) (fun h493 => ?_) (fun h493 => ?_)
                            · omega
                            · refine g_aload_n C dL_law_496 rfl ?_
                              refine gc_merges C (by decide) tw_635 (Nat.le_of_ble_eq_true rfl) rfl dL_law_497 a6 (?_)
                              refine g_if_le (tgt := 519) C dL_law_500 rfl (by omega) (fun h500 => ?_) (fun h500 => ?_)
                              · exact k519 _ _ _
                              · refine g_aload_n C dL_law_503 rfl ?_
                                refine g_aload_n C dL_law_504 rfl ?_
                                refine gc_merges C (by decide) tw_635 (Nat.le_of_ble_eq_true rfl) rfl dL_law_505 a6 (?_)
                                refine g_iconst C dL_law_508 ?_
                                refine g_isub C dL_law_509 ?_
                                refine g_iconst C dL_law_510 ?_
                                show G X _ 511 _ _
                                rw [show ((mkZ L0 rep least pg mem).2.2.2.2.length : Int) - 1 = (((mkZ L0 rep least pg mem).2.2.2.2.length - 1 : Nat) : Int) by omega]
                                refine gc_merge C (by decide) tw_639 (Nat.le_of_ble_eq_true rfl) rfl dL_law_511 ((mkZ L0 rep least pg mem).2.2.2.2.length - 1) true (by omega) (by omega) a6 (?_)
                                rw [if_pos rfl, f3 (by omega)]
                                refine g_iload C dL_law_514 rfl ?_
                                refine g_icmp_ne (tgt := 538) C dL_law_516 rfl (by omega) (by omega) (fun h516 => ?_) (fun h516 => ?_)
                                · omega
                                · exact k519 _ _ _
                        · refine g_aload_n C dL_law_435 rfl ?_
                          refine g_iload C dL_law_436 rfl ?_
                          refine g_iconst C dL_law_438 ?_
                          have hin : 2 ≤ nA (mkZ L0 rep least pg mem).2.2.2.1 k ∧ nA (mkZ L0 rep least pg mem).2.2.2.1 k ≤ ((mem - 1 : Nat) : Int) := hz.1.2.1 _ (nA_mem (by omega))
                          refine gc_merge C (by decide) tw_639 (Nat.le_of_ble_eq_true rfl) rfl dL_law_439 k false (by omega) (by omega) a6 (?_)
                          rw [if_neg (by decide)]
                          refine g_iconst C dL_law_442 ?_
                          refine g_icmp_lt (tgt := 459) C dL_law_443 rfl (by omega) (by omega) (fun h443 => ?_) (fun h443 => ?_)
                          · omega
                          · refine g_aload_n C dL_law_446 rfl ?_
                            refine g_iload C dL_law_447 rfl ?_
                            refine g_iconst C dL_law_449 ?_
                            refine gc_merge C (by decide) tw_639 (Nat.le_of_ble_eq_true rfl) rfl dL_law_450 k false (by omega) (by omega) a6 (?_)
                            rw [if_neg (by decide)]
                            refine g_iload_n C dL_law_453 rfl ?_
                            refine g_iconst C dL_law_454 ?_
                            show G X _ 455 _ _
                            refine g_isub C dL_law_455 ?_
                            refine g_icmp_le (tgt := 461) C dL_law_456 rfl (by omega) (by omega) (fun h456 => ?_) (fun h456 => ?_)
                            · refine g_iload C dL_law_461 rfl ?_
                              refine g_aload_n C dL_law_463 rfl ?_
                              refine g_iload C dL_law_464 rfl ?_
                              refine g_iconst C dL_law_466 ?_
                              refine gc_merge C (by decide) tw_639 (Nat.le_of_ble_eq_true rfl) rfl dL_law_467 k false (by omega) (by omega) a6 (?_)
                              rw [if_neg (by decide)]
                              refine g_iconst C dL_law_470 ?_
                              show G X _ 471 _ _
                              refine g_isub C dL_law_471 ?_
                              refine g_isub C dL_law_472 ?_
                              refine g_istore C dL_law_473 (Nat.le_of_ble_eq_true rfl) ?_
                              show G X _ 475 [_, _, _, _, _, _, _, _, _, _, _, _, _, _, _, _, _, _] _
                              refine g_iinc C dL_law_475 rfl ?_
                              show G X _ 478 [_, _, _, _, _, _, _, _, _, _, _, _, _, _, _, _, _, _] _
                              refine g_goto (tgt := 426) C dL_law_478 rfl ?_
                              show G X _ 426 _ _
                              rw [show ((mkR L0 rep (mem * pg)).length : Int) - sg ((mkZ L0 rep least pg mem).2.2.2.1.take k) - (nA (mkZ L0 rep least pg mem).2.2.2.1 k - 1) = ((mkR L0 rep (mem * pg)).length : Int) - sg ((mkZ L0 rep least pg mem).2.2.2.1.take (k + 1)) by rw [sg_take (by omega)]; omega]
                              exact ih2 (k + 1) (by omega) (by omega)
                            · omega
                    have lpr : ∀ (fk : Nat) (k : Nat), 200 - k < fk → k ≤ (mkR L0 rep (mem * pg)).length → G X N5 340 [none, some (.ref (zA X 95)), some (.int (jI (pg : Int))), some (.int (jI (mem : Int))), some (.int (jI (n : Int))), some (.long sm9), none, some (.int (jI (w : Int))), some (.int (jI (bI rep))), some (.int (jI (bI least))), some (.int (jI x1)), some (.int (jI (N1 95 4 + N1 95 5))), some (.int (jI x3)), some (.int (jI (sm (mkR L0 rep (mem * pg)) 0 k))), some (.int (jI ((mkR L0 rep (mem * pg)).length : Int))), some (.int (jI (k : Int))), none, none] [] := by
                      intro fk
                      induction fk with
                      | zero => intro k hk; exact absurd hk (Nat.not_lt_zero _)
                      | succ fk ih2 =>
                        intro k hk k1
                        have hsb := sm_in hr.zv 0 k
                        refine g_iload C dL_law_340 rfl ?_
                        refine g_iload C dL_law_342 rfl ?_
                        refine g_icmp_ge (tgt := 397) C dL_law_344 rfl (by omega) (by omega) (fun h344 => ?_) (fun h344 => ?_)
                        · obtain rfl : k = (mkR L0 rep (mem * pg)).length := by omega
                          rw [sm_all, hr.1]
                          refine g_iload C dL_law_397 rfl ?_
                          refine g_iload C dL_law_399 rfl ?_
                          refine g_icmp_ne (tgt := 421) C dL_law_401 rfl (by omega) (by omega) (fun h401 => ?_) (fun h401 => ?_)
                          · omega
                          · refine g_iload C dL_law_404 rfl ?_
                            refine g_iload C dL_law_406 rfl ?_
                            refine g_iload_n C dL_law_408 rfl ?_
                            refine g_iload_n C dL_law_409 rfl ?_
                            refine g_imul C dL_law_410 ?_
                            rw [p3]
                            refine g_iadd C dL_law_411 ?_
                            show G X _ 412 _ _
                            refine g_iconst C dL_law_412 ?_
                            refine g_isub C dL_law_413 ?_
                            refine g_iload_n C dL_law_414 rfl ?_
                            refine g_iload_n C dL_law_415 rfl ?_
                            refine g_imul C dL_law_416 ?_
                            rw [p3]
                            refine g_idiv C dL_law_417 (by omega) (by omega) ?_
                            show G X _ 418 _ _
                            refine g_icmp_le (tgt := 423) C dL_law_418 rfl (by omega) (by omega) (fun h418 => ?_) (fun h418 => ?_)
                            · refine g_iconst C dL_law_423 ?_
                              refine g_istore C dL_law_424 (Nat.le_of_ble_eq_true rfl) ?_
                              show G X _ 426 [_, _, _, _, _, _, _, _, _, _, _, _, _, _, _, _, _, _] _
                              have := lpm (L0.length : Int) 300 0 (by omega) (by omega)
                              rw [List.take_zero, show sg ([] : List Int) = 0 from rfl, Int.sub_zero] at this
                              exact this
                            · omega
                        · refine g_aload_n C dL_law_347 rfl ?_
                          refine g_iload C dL_law_348 rfl ?_
                          have hk1 := hr.2 k (by omega)
                          have hkb := hr.zv.at (by omega) k
                          refine gc_runSize C (by decide) tw_625 (Nat.le_of_ble_eq_true rfl) rfl dL_law_350 k (by omega) a6 (?_)
                          refine g_iconst C dL_law_353 ?_
                          refine g_icmp_lt (tgt := 378) C dL_law_354 rfl (by omega) (by omega) (fun h354 => ?_) (fun h354 => ?_)
                          · omega
                          · refine g_iload C dL_law_357 rfl ?_
                            refine g_iconst C dL_law_359 ?_
                            refine g_iadd C dL_law_360 ?_
                            refine g_iload C dL_law_361 rfl ?_
                            refine g_icmp_ge (tgt := 380) C dL_law_363 rfl (by omega) (by omega) (fun h363 => ?_) (fun h363 => ?_)
                            · refine g_iload C dL_law_380 rfl ?_
                              refine g_aload_n C dL_law_382 rfl ?_
                              refine g_iload C dL_law_383 rfl ?_
                              refine gc_runSize C (by decide) tw_625 (Nat.le_of_ble_eq_true rfl) rfl dL_law_385 k (by omega) a6 (?_)
                              refine g_iadd C dL_law_388 ?_
                              refine g_istore C dL_law_389 (Nat.le_of_ble_eq_true rfl) ?_
                              show G X _ 391 [_, _, _, _, _, _, _, _, _, _, _, _, _, _, _, _, _, _] _
                              refine g_iinc C dL_law_391 rfl ?_
                              show G X _ 394 [_, _, _, _, _, _, _, _, _, _, _, _, _, _, _, _, _, _] _
                              refine g_goto (tgt := 340) C dL_law_394 rfl ?_
                              show G X _ 340 _ _
                              rw [← sm_1 (by omega) (by omega)]
                              exact ih2 (k + 1) (by omega) (by omega)
                            · refine g_aload_n C dL_law_366 rfl ?_
                              refine g_iload C dL_law_367 rfl ?_
                              refine gc_runSize C (by decide) tw_625 (Nat.le_of_ble_eq_true rfl) rfl dL_law_369 k (by omega) a6 (?_)
                              refine g_iload_n C dL_law_372 rfl ?_
                              refine g_iload_n C dL_law_373 rfl ?_
                              refine g_imul C dL_law_374 ?_
                              show G X _ 375 _ _
                              rw [p3]
                              refine g_icmp_ge (tgt := 380) C dL_law_375 rfl (by omega) (by omega) (fun h375 => ?_) (fun h375 => ?_)
                              · refine g_iload C dL_law_380 rfl ?_
                                refine g_aload_n C dL_law_382 rfl ?_
                                refine g_iload C dL_law_383 rfl ?_
                                refine gc_runSize C (by decide) tw_625 (Nat.le_of_ble_eq_true rfl) rfl dL_law_385 k (by omega) a6 (?_)
                                refine g_iadd C dL_law_388 ?_
                                refine g_istore C dL_law_389 (Nat.le_of_ble_eq_true rfl) ?_
                                show G X _ 391 [_, _, _, _, _, _, _, _, _, _, _, _, _, _, _, _, _, _] _
                                refine g_iinc C dL_law_391 rfl ?_
                                show G X _ 394 [_, _, _, _, _, _, _, _, _, _, _, _, _, _, _, _, _, _] _
                                refine g_goto (tgt := 340) C dL_law_394 rfl ?_
                                show G X _ 340 _ _
                                rw [← sm_1 (by omega) (by omega)]
                                exact ih2 (k + 1) (by omega) (by omega)
                              · omega
                    refine g_iconst C dL_law_328 ?_
                    refine g_istore C dL_law_329 (Nat.le_of_ble_eq_true rfl) ?_
                    show G X _ 331 [_, _, _, _, _, _, _, _, _, _, _, _, _, _, _, _, _, _] _
                    refine g_aload_n C dL_law_331 rfl ?_
                    refine gc_runs C (by decide) tw_620 (Nat.le_of_ble_eq_true rfl) rfl dL_law_332 a6 (?_)
                    refine g_istore C dL_law_335 (Nat.le_of_ble_eq_true rfl) ?_
                    show G X _ 337 [_, _, _, _, _, _, _, _, _, _, _, _, _, _, _, _, _, _] _
                    refine g_iconst C dL_law_337 ?_
                    refine g_istore C dL_law_338 (Nat.le_of_ble_eq_true rfl) ?_
                    show G X _ 340 [_, _, _, _, _, _, _, _, _, _, _, _, _, _, _, _, _, _] _
                    have := lpr 300 0 (by omega) (by omega)
                    rw [sm_0] at this
                    exact this
                  · omega
          refine g_istore C dL_law_238 (Nat.le_of_ble_eq_true rfl) ?_
          show G X _ 240 [_, _, _, _, _, _, _, _, _, _, _, _, _, _, _, _, _, _] _
          refine g_iload C dL_law_240 rfl ?_
          refine g_if_ne (tgt := 255) C dL_law_242 rfl (by omega) (fun h242 => ?_) (fun h242 => ?_)
          · exact k255 N3 q3
          · refine g_aload_n C dL_law_245 rfl ?_
            obtain rfl : w = 0 := by omega
            obtain ⟨p9, rs9, z9, d1, d2, d3, d4⟩ := (hD rfl).same q3
            refine gc_digest C (by decide) tw_825 (Nat.le_of_ble_eq_true rfl) rfl dL_law_246 2 pg mem (N3 95 4) (N3 95 5) (N3 95 6) (by omega) (by omega) hF2 d1 s3 d2 rfl rfl rfl d4 (fun x4 N4 ⟨x4e, f4⟩ => ?_)
            refine g_lload C dL_law_249 rfl ?_
            refine g_lcmp C dL_law_251 (fun h251 => ?_) (fun h251 => absurd (x4e.trans d3.symm) h251)
            show G X _ 252 _ _
            refine g_if_ne (tgt := 326) C dL_law_252 rfl (by omega) (fun h252 => ?_) (fun h252 => ?_)
            · omega
            · exact k255 N4 (q3.trans f4)
        have k192 : G X M 192 [none, some (.ref (zA X 95)), some (.int (jI (pg : Int))), some (.int (jI (mem : Int))), some (.int (jI (n : Int))), some (.long sm9), none, some (.int (jI (w : Int))), none, none, none, none, none, none, none, none, none, none] [.int (jI (bI rep))] := by
          refine g_istore C dL_law_192 (Nat.le_of_ble_eq_true rfl) ?_
          show G X _ 194 [_, _, _, _, _, _, _, _, _, _, _, _, _, _, _, _, _, _] _
          refine g_iload C dL_law_194 rfl ?_
          refine g_iconst C dL_law_196 ?_
          refine g_icmp_le (tgt := 204) C dL_law_197 rfl (by omega) (by omega) (fun h197 => ?_) (fun h197 => ?_)
          · refine g_iconst C dL_law_204 ?_
            rw [show (0 : Int) = bI least by rw [hleast, decide_eq_false (by omega)]; rfl]
            exact k205
          · refine g_iconst C dL_law_200 ?_
            refine g_goto (tgt := 205) C dL_law_201 rfl ?_
            show G X _ 205 _ _
            rw [show (1 : Int) = bI least by rw [hleast, decide_eq_true (by omega)]; rfl]
            exact k205
        refine g_iload C dL_law_179 rfl ?_
        refine g_iconst C dL_law_181 ?_
        refine g_irem C dL_law_182 (by omega) (by omega) ?_
        refine g_iconst C dL_law_183 ?_
        refine g_icmp_ne (tgt := 191) C dL_law_184 rfl (by omega) (by omega) (fun h184 => ?_) (fun h184 => ?_)
        · refine g_iconst C dL_law_191 ?_
          rw [show (0 : Int) = bI rep by rw [hrep, decide_eq_false (by omega)]; rfl]
          exact k192
        · refine g_iconst C dL_law_187 ?_
          refine g_goto (tgt := 192) C dL_law_188 rfl ?_
          show G X _ 192 _ _
          rw [show (1 : Int) = bI rep by rw [hrep, decide_eq_true (by omega)]; rfl]
          exact k192
  refine g_iconst C dL_law_170 ?_
  refine g_istore C dL_law_171 (Nat.le_of_ble_eq_true rfl) ?_
  show G X _ 173 [_, _, _, _, _, _, _, _, _, _, _, _, _, _, _, _, _, _] _
  exact lp 20 0 M (by omega) (by omega) hS (fun _ => hD)
