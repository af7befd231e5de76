/-! ===== the law's sound (by program) ===== -/
theorem at_0 (v : Sg) : aTell v 0 = v 0 := a_tell v 0 (by decide)
theorem at_1 (v : Sg) : aTell v 1 = sRes v := a_tell v 1 (by decide)
theorem at_2 (v : Sg) : aTell v 2 = v 13 := a_tell v 2 (by decide)
theorem at_3 (v : Sg) : aTell v 3 = v 14 := a_tell v 3 (by decide)
theorem at_4 (v : Sg) : aTell v 4 = v 15 := a_tell v 4 (by decide)
theorem at_5 (v : Sg) : aTell v 5 = v 16 := a_tell v 5 (by decide)
theorem at_6 (v : Sg) : aTell v 6 = ((sOm v (sDrw v) true 8 : Nat) : Int) := a_tell v 6 (by decide)
theorem at_7 (v : Sg) : aTell v 7 = ((sSp v (sDrw v) true 192 : Nat) : Int) := a_tell v 7 (by decide)
theorem at_8 (v : Sg) : aTell v 8 = ((sCi v 8 : Nat) : Int) := a_tell v 8 (by decide)
theorem at_9 (v : Sg) : aTell v 9 = v 20 := a_tell v 9 (by decide)
theorem as_0 (v : Sg) {s : Nat} (hs : s < 8) : aStop v (s : Int) 0 = v (24 + 5 * s) := a_stop v hs 0 (by decide)
theorem as_2 (v : Sg) {s : Nat} (hs : s < 8) : aStop v (s : Int) 2 = v (24 + 5 * s + 2) := a_stop v hs 2 (by decide)
theorem as_3 (v : Sg) {s : Nat} (hs : s < 8) : aStop v (s : Int) 3 = v (24 + 5 * s + 3) := a_stop v hs 3 (by decide)
theorem as_4 (v : Sg) {s : Nat} (hs : s < 8) : aStop v (s : Int) 4 = v (24 + 5 * s + 4) := a_stop v hs 4 (by decide)
theorem ap_2 (v : Sg) {s k : Nat} (hs : s < 8) (hk : k < 24) : aPipe v (s : Int) (k : Int) 2 = sPi v s k 2 := a_pipe v hs hk 2 (by decide)
theorem ap_3 (v : Sg) {s k : Nat} (hs : s < 8) (hk : k < 24) : aPipe v (s : Int) (k : Int) 3 = sPi v s k 3 := a_pipe v hs hk 3 (by decide)
theorem ac_0 (v : Sg) {m : Nat} (hm : m < 2) : aChest v (m : Int) 0 = sPr v (sDrw v) true m := (a_chest v hm 0 (by decide)).trans (if_pos rfl)
theorem ac_00 (v : Sg) : aChest v 0 0 = sPr v (sDrw v) true 0 := ac_0 v (m := 0) (by decide)
theorem ac_10 (v : Sg) : aChest v 1 0 = sPr v (sDrw v) true 1 := ac_0 v (m := 1) (by decide)
theorem ac_2 (v : Sg) {m : Nat} (hm : m < 2) : aChest v (m : Int) 2 = ((sAct v true m : Nat) : Int) := (a_chest v hm 2 (by decide)).trans ((if_neg (by decide)).trans (if_neg (by decide)))
set_option maxRecDepth 100000 in
set_option maxHeartbeats 4000000 in
theorem c_L_sound {l : Launch} {G : vGG} {M : Mem} {v : Sg} {r : Nat} {h : Nat → Nat} {ro : Nat → Sg} {ke : Nat → Int} {kr : Nat → Sg} {t : Nat} {L : Nat → Int} (hJ : JX v r h ro ke kr t L M) {n : Nat} (hI : wI n v) (hn : n ≤ 1000) : Co l yL_sound cL_sound 12 (some .boolean) (rmo 7 160) G [aR (some 0), aI 3000] M (fun r0 N => r0 = some (aI 1) ∧ (JX v r h ro ke kr t L N ∧ xfr M N)) := by
  refine Co.ofV (plainFor_of_name (by decide)) rfl rfl ?_
  intro x hxl hxR hlk hrt Q hQ
  have hb := wI_b hI hn
  have hS := hI.1
  have hF : xfr M M := xfr_rf
  show vO x Q G cL_sound RL 0 [some (aR (some 0)), some (aI 3000), none, none, none, none, none, none, none, none, none, none] [] M
  refine v_iconst dL_sound_0 ?_
  refine v_ist2 dL_sound_1 rfl ?_
  refine v_iconst dL_sound_2 ?_
  refine v_ist3 dL_sound_3 rfl ?_
  refine v_iconst dL_sound_4 ?_
  refine v_ist4 dL_sound_5 rfl ?_
  refine v_iconst dL_sound_7 ?_
  refine v_ist5 dL_sound_8 rfl ?_
  refine v_aload_n 0 dL_sound_10 rfl rfl ?_
  refine v_iconst dL_sound_11 ?_
  refine oVq1 3 (q_tell hJ (by decide)) k0_X3_tell ki_X3_tell ml_L_64 (rfl : SH 0 = _) (by decide) (vRo_of hxR (by decide) (by decide)) dL_sound_12 (Nat.le_of_ble_eq_true rfl) (fun N hN => ?_)
  have hJ := hN.1
  have hF := xfr_tr hF hN.2
  refine o_eqI (u := v 0) (at_0 v) ?_
  refine v_if_lt 58 dL_sound_15 (by decide) (by omega) (fun h15 => ?_) (fun h15 => ?_)
  · skip
    exact absurd h15 (by omega)
  · skip
    refine v_iload_n 1 dL_sound_18 rfl rfl ?_
    refine v_aload_n 0 dL_sound_19 rfl rfl ?_
    refine v_iconst dL_sound_20 ?_
    refine oVq1 3 (q_tell hJ (by decide)) k0_X3_tell ki_X3_tell ml_L_64 (rfl : SH 0 = _) (by decide) (vRo_of hxR (by decide) (by decide)) dL_sound_21 (Nat.le_of_ble_eq_true rfl) (fun N hN => ?_)
    have hJ := hN.1
    have hF := xfr_tr hF hN.2
    refine o_eqI (u := v 14) (at_3 v) ?_
    refine v_iadd dL_sound_24 ?_
    refine v_aload_n 0 dL_sound_25 rfl rfl ?_
    refine v_iconst dL_sound_26 ?_
    refine oVq1 3 (q_tell hJ (by decide)) k0_X3_tell ki_X3_tell ml_L_64 (rfl : SH 0 = _) (by decide) (vRo_of hxR (by decide) (by decide)) dL_sound_27 (Nat.le_of_ble_eq_true rfl) (fun N hN => ?_)
    have hJ := hN.1
    have hF := xfr_tr hF hN.2
    refine o_eqI (u := v 0) (at_0 v) ?_
    refine v_aload_n 0 dL_sound_30 rfl rfl ?_
    refine v_iconst dL_sound_31 ?_
    refine oVq1 3 (q_tell hJ (by decide)) k0_X3_tell ki_X3_tell ml_L_64 (rfl : SH 0 = _) (by decide) (vRo_of hxR (by decide) (by decide)) dL_sound_32 (Nat.le_of_ble_eq_true rfl) (fun N hN => ?_)
    have hJ := hN.1
    have hF := xfr_tr hF hN.2
    refine o_eqI (u := v 15) (at_4 v) ?_
    refine v_iadd dL_sound_35 ?_
    refine v_aload_n 0 dL_sound_36 rfl rfl ?_
    refine v_iconst dL_sound_37 ?_
    refine oVq1 3 (q_tell hJ (by decide)) k0_X3_tell ki_X3_tell ml_L_64 (rfl : SH 0 = _) (by decide) (vRo_of hxR (by decide) (by decide)) dL_sound_38 (Nat.le_of_ble_eq_true rfl) (fun N hN => ?_)
    have hJ := hN.1
    have hF := xfr_tr hF hN.2
    refine o_eqI (u := v 16) (at_5 v) ?_
    refine v_iadd dL_sound_41 ?_
    refine v_icmp_neS dL_sound_42 58 (by decide) (by omega) ?_
    refine v_aload_n 0 dL_sound_45 rfl rfl ?_
    refine v_bipush dL_sound_46 (by decide) ?_
    refine oVq1 3 (q_tell hJ (by decide)) k0_X3_tell ki_X3_tell ml_L_64 (rfl : SH 0 = _) (by decide) (vRo_of hxR (by decide) (by decide)) dL_sound_48 (Nat.le_of_ble_eq_true rfl) (fun N hN => ?_)
    have hJ := hN.1
    have hF := xfr_tr hF hN.2
    refine o_eqI (u := v 20) (at_9 v) ?_
    refine v_if_lt 58 dL_sound_51 (by decide) (by omega) (fun h51 => ?_) (fun h51 => ?_)
    · skip
      exact absurd h51 (by omega)
    · skip
      refine v_iconst dL_sound_54 ?_
      refine v_goto 59 dL_sound_55 (by decide) ?_
      refine v_ist6 dL_sound_59 rfl ?_
      refine v_iconst dL_sound_61 ?_
      refine v_ist7 dL_sound_62 rfl ?_
      have lp64 : ∀ (dd s : Nat) (K : Mem) (c8 c9 c10 c11 : Option AV), s + dd = 8 → JX v r h ro ke kr t L K → xfr M K → vO x Q G cL_sound RL 64 [some (aR (some 0)), some (aI 3000), some (aI (sGo v s)), some (aI ((wO v (24 * s) : Nat) : Int)), some (aI ((sSp v (sDrw v) true (24 * s) : Nat) : Int)), some (aI (wF v (24 * s))), some (aI 1), some (aI (s : Int)), c8, c9, c10, c11] [] K := by
        intro dd
        induction dd with
        | zero =>
          intro s K c8 c9 c10 c11 hd hJ hF
          obtain rfl : s = 8 := by omega
          refine v_iload dL_sound_64 rfl ?_
          refine v_bipush dL_sound_66 (by decide) ?_
          refine v_icmp_ge 367 dL_sound_68 (by decide) (by omega) (by decide) (fun h68 => ?_) (fun h68 => ?_)
          · skip
            rw [show 24 * 8 = 192 from rfl]
            refine v_iload dL_sound_367 rfl ?_
            refine v_if_eq 484 dL_sound_369 (by decide) (by decide) (fun h369 => ?_) (fun h369 => ?_)
            · skip
              exact absurd h369 (by decide)
            · skip
              refine v_iload_n 2 dL_sound_372 rfl rfl ?_
              refine v_aload_n 0 dL_sound_373 rfl rfl ?_
              refine v_iconst dL_sound_374 ?_
              refine oVq1 3 (q_tell hJ (by decide)) k0_X3_tell ki_X3_tell ml_L_64 (rfl : SH 0 = _) (by decide) (vRo_of hxR (by decide) (by decide)) dL_sound_375 (Nat.le_of_ble_eq_true rfl) (fun N hN => ?_)
              have hJ := hN.1
              have hF := xfr_tr hF hN.2
              refine o_eqI (u := v 15) (at_4 v) ?_
              refine v_icmp_neS dL_sound_378 484 (by decide) (xs_sum hJ.xs).symm ?_
              refine v_iload_n 3 dL_sound_381 rfl rfl ?_
              refine v_aload_n 0 dL_sound_382 rfl rfl ?_
              refine v_bipush dL_sound_383 (by decide) ?_
              refine oVq1 3 (q_tell hJ (by decide)) k0_X3_tell ki_X3_tell ml_L_64 (rfl : SH 0 = _) (by decide) (vRo_of hxR (by decide) (by decide)) dL_sound_385 (Nat.le_of_ble_eq_true rfl) (fun N hN => ?_)
              have hJ := hN.1
              have hF := xfr_tr hF hN.2
              refine o_eqI (u := ((sOm v (sDrw v) true 8 : Nat) : Int)) (at_6 v) ?_
              refine v_icmp_neS dL_sound_388 484 (by decide) (congrArg (fun n : Nat => (n : Int)) (wO_om v 8)) ?_
              refine v_iload dL_sound_391 rfl ?_
              refine v_aload_n 0 dL_sound_393 rfl rfl ?_
              refine v_bipush dL_sound_394 (by decide) ?_
              refine oVq1 3 (q_tell hJ (by decide)) k0_X3_tell ki_X3_tell ml_L_64 (rfl : SH 0 = _) (by decide) (vRo_of hxR (by decide) (by decide)) dL_sound_396 (Nat.le_of_ble_eq_true rfl) (fun N hN => ?_)
              have hJ := hN.1
              have hF := xfr_tr hF hN.2
              refine o_eqI (u := ((sSp v (sDrw v) true (192) : Nat) : Int)) (at_7 v) ?_
              refine v_icmp_neS dL_sound_399 484 (by decide) rfl ?_
              refine v_iload dL_sound_402 rfl ?_
              refine v_aload_n 0 dL_sound_404 rfl rfl ?_
              refine v_iconst dL_sound_405 ?_
              refine oVq1 3 (q_tell hJ (by decide)) k0_X3_tell ki_X3_tell ml_L_64 (rfl : SH 0 = _) (by decide) (vRo_of hxR (by decide) (by decide)) dL_sound_406 (Nat.le_of_ble_eq_true rfl) (fun N hN => ?_)
              have hJ := hN.1
              have hF := xfr_tr hF hN.2
              refine o_eqI (u := v 0) (at_0 v) ?_
              refine v_icmp_gt 484 dL_sound_409 (by decide) (by have := wF_b hS (p := 192) (by decide); omega) (by omega) (fun h409 => ?_) (fun h409 => ?_)
              · skip
                exact absurd h409 (by have := wF_b hS (p := 192) (by decide); omega)
              · skip
                refine v_aload_n 0 dL_sound_412 rfl rfl ?_
                refine v_iconst dL_sound_413 ?_
                refine v_iconst dL_sound_414 ?_
                refine oVq2 3 (q_chest hJ (by decide) (by decide)) k0_X3_chest ki_X3_chest ml_L_78 (rfl : SH 0 = _) (by decide) (vRo_of hxR (by decide) (by decide)) dL_sound_415 (Nat.le_of_ble_eq_true rfl) (fun N hN => ?_)
                have hJ := hN.1
                have hF := xfr_tr hF hN.2
                refine o_eqI (u := sPr v (sDrw v) true 0) (ac_00 v) ?_
                refine v_aload_n 0 dL_sound_418 rfl rfl ?_
                refine v_iconst dL_sound_419 ?_
                refine oVq1 3 (q_tell hJ (by decide)) k0_X3_tell ki_X3_tell ml_L_64 (rfl : SH 0 = _) (by decide) (vRo_of hxR (by decide) (by decide)) dL_sound_420 (Nat.le_of_ble_eq_true rfl) (fun N hN => ?_)
                have hJ := hN.1
                have hF := xfr_tr hF hN.2
                refine o_eqI (u := sRes v) (at_1 v) ?_
                refine v_icmp_gt 484 dL_sound_423 (by decide) (by have := sPr_le hS (show 0 < 2 by decide); omega) (by have := sPr_le hS (show 0 < 2 by decide); omega) (fun h423 => ?_) (fun h423 => ?_)
                · skip
                  exact absurd h423 (by have := sPr_le hS (show 0 < 2 by decide); omega)
                · skip
                  refine v_aload_n 0 dL_sound_426 rfl rfl ?_
                  refine v_iconst dL_sound_427 ?_
                  refine v_iconst dL_sound_428 ?_
                  refine oVq2 3 (q_chest hJ (by decide) (by decide)) k0_X3_chest ki_X3_chest ml_L_78 (rfl : SH 0 = _) (by decide) (vRo_of hxR (by decide) (by decide)) dL_sound_429 (Nat.le_of_ble_eq_true rfl) (fun N hN => ?_)
                  have hJ := hN.1
                  have hF := xfr_tr hF hN.2
                  refine o_eqI (u := sPr v (sDrw v) true 1) (ac_10 v) ?_
                  refine v_aload_n 0 dL_sound_432 rfl rfl ?_
                  refine v_iconst dL_sound_433 ?_
                  refine oVq1 3 (q_tell hJ (by decide)) k0_X3_tell ki_X3_tell ml_L_64 (rfl : SH 0 = _) (by decide) (vRo_of hxR (by decide) (by decide)) dL_sound_434 (Nat.le_of_ble_eq_true rfl) (fun N hN => ?_)
                  have hJ := hN.1
                  have hF := xfr_tr hF hN.2
                  refine o_eqI (u := sRes v) (at_1 v) ?_
                  refine v_icmp_gt 484 dL_sound_437 (by decide) (by have := sPr_le hS (show 1 < 2 by decide); omega) (by have := sPr_le hS (show 1 < 2 by decide); omega) (fun h437 => ?_) (fun h437 => ?_)
                  · skip
                    exact absurd h437 (by have := sPr_le hS (show 1 < 2 by decide); omega)
                  · skip
                    refine v_aload_n 0 dL_sound_440 rfl rfl ?_
                    refine oVq0 3 (q_mistuned hJ) k0_X3_mistuned ki_X3_mistuned ml_L_81 (rfl : SH 0 = _) (by decide) (vRo_of hxR (by decide) (by decide)) dL_sound_441 (Nat.le_of_ble_eq_true rfl) (fun N hN => ?_)
                    have hJ := hN.1
                    have hF := xfr_tr hF hN.2
                    have hm := mist_sp hS
                    rcases (show sSp v (sDrw v) true 192 = 0 ∨ sSp v (sDrw v) true 192 = 1 ∨ 2 ≤ sSp v (sDrw v) true 192 by omega) with e | e | e
                    · skip
                      refine v_ldc (-1000005) kc_L_77 (by decide) dL_sound_444 ?_
                      refine v_icmp_ne 453 dL_sound_446 (by decide) (by omega) (by decide) (fun h446 => ?_) (fun h446 => ?_)
                      · skip
                        exact absurd (hm.1 e) h446
                      · skip
                        refine v_iconst dL_sound_449 ?_
                        refine v_goto 454 dL_sound_450 (by decide) ?_
                        refine v_iload dL_sound_454 rfl ?_
                        refine v_if_ne 463 dL_sound_456 (by decide) (by have := sSp_le v (sDrw v) true 192; omega) (fun h456 => ?_) (fun h456 => ?_)
                        · skip
                          exact absurd (show ((sSp v (sDrw v) true 192 : Nat) : Int) = 0 by omega) h456
                        · skip
                          refine v_iconst dL_sound_459 ?_
                          refine v_goto 464 dL_sound_460 (by decide) ?_
                          refine v_icmp_ne 484 dL_sound_464 (by decide) (by decide) (by decide) (fun h464 => ?_) (fun h464 => ?_)
                          · skip
                            exact absurd h464 (by decide)
                          · skip
                            refine v_iload dL_sound_467 rfl ?_
                            refine v_iconst dL_sound_469 ?_
                            refine v_icmp_ne 480 dL_sound_470 (by decide) (by have := sSp_le v (sDrw v) true 192; omega) (by decide) (fun h470 => ?_) (fun h470 => ?_)
                            · skip
                              refine v_iconst dL_sound_480 ?_
                              refine v_goto 485 dL_sound_481 (by decide) ?_
                              refine o_zret hQ hlk hrt (.inr rfl) dL_sound_485 ?_
                              exact ⟨rfl, hJ, hF⟩
                            · skip
                              exact absurd h470 (by omega)
                    · skip
                      refine v_ldc (-1000005) kc_L_77 (by decide) dL_sound_444 ?_
                      refine v_icmp_ne 453 dL_sound_446 (by decide) (by omega) (by decide) (fun h446 => ?_) (fun h446 => ?_)
                      · skip
                        refine v_iconst dL_sound_453 ?_
                        refine v_iload dL_sound_454 rfl ?_
                        refine v_if_ne 463 dL_sound_456 (by decide) (by have := sSp_le v (sDrw v) true 192; omega) (fun h456 => ?_) (fun h456 => ?_)
                        · skip
                          refine v_iconst dL_sound_463 ?_
                          refine v_icmp_ne 484 dL_sound_464 (by decide) (by decide) (by decide) (fun h464 => ?_) (fun h464 => ?_)
                          · skip
                            exact absurd h464 (by decide)
                          · skip
                            refine v_iload dL_sound_467 rfl ?_
                            refine v_iconst dL_sound_469 ?_
                            refine v_icmp_ne 480 dL_sound_470 (by decide) (by have := sSp_le v (sDrw v) true 192; omega) (by decide) (fun h470 => ?_) (fun h470 => ?_)
                            · skip
                              exact absurd (show ((sSp v (sDrw v) true 192 : Nat) : Int) = 1 by omega) h470
                            · skip
                              refine v_aload_n 0 dL_sound_473 rfl rfl ?_
                              refine oVq0 3 (q_mistuned hJ) k0_X3_mistuned ki_X3_mistuned ml_L_81 (rfl : SH 0 = _) (by decide) (vRo_of hxR (by decide) (by decide)) dL_sound_474 (Nat.le_of_ble_eq_true rfl) (fun N hN => ?_)
                              have hJ := hN.1
                              have hF := xfr_tr hF hN.2
                              refine v_if_ne 484 dL_sound_477 (by decide) (by omega) (fun h477 => ?_) (fun h477 => ?_)
                              · skip
                                exact absurd (hm.2.2.1 e) h477
                              · skip
                                refine v_iconst dL_sound_480 ?_
                                refine v_goto 485 dL_sound_481 (by decide) ?_
                                refine o_zret hQ hlk hrt (.inr rfl) dL_sound_485 ?_
                                exact ⟨rfl, hJ, hF⟩
                        · skip
                          exact absurd h456 (by omega)
                      · skip
                        exact absurd h446 (by omega)
                    · skip
                      refine v_ldc (-1000005) kc_L_77 (by decide) dL_sound_444 ?_
                      refine v_icmp_ne 453 dL_sound_446 (by decide) (by omega) (by decide) (fun h446 => ?_) (fun h446 => ?_)
                      · skip
                        refine v_iconst dL_sound_453 ?_
                        refine v_iload dL_sound_454 rfl ?_
                        refine v_if_ne 463 dL_sound_456 (by decide) (by have := sSp_le v (sDrw v) true 192; omega) (fun h456 => ?_) (fun h456 => ?_)
                        · skip
                          refine v_iconst dL_sound_463 ?_
                          refine v_icmp_ne 484 dL_sound_464 (by decide) (by decide) (by decide) (fun h464 => ?_) (fun h464 => ?_)
                          · skip
                            exact absurd h464 (by decide)
                          · skip
                            refine v_iload dL_sound_467 rfl ?_
                            refine v_iconst dL_sound_469 ?_
                            refine v_icmp_ne 480 dL_sound_470 (by decide) (by have := sSp_le v (sDrw v) true 192; omega) (by decide) (fun h470 => ?_) (fun h470 => ?_)
                            · skip
                              refine v_iconst dL_sound_480 ?_
                              refine v_goto 485 dL_sound_481 (by decide) ?_
                              refine o_zret hQ hlk hrt (.inr rfl) dL_sound_485 ?_
                              exact ⟨rfl, hJ, hF⟩
                            · skip
                              exact absurd h470 (by omega)
                        · skip
                          exact absurd h456 (by omega)
                      · skip
                        exact absurd h446 (by omega)
          · skip
            exact absurd h68 (by omega)
        | succ dd ih =>
          intro s K c8 c9 c10 c11 hd hJ hF
          have hs : s < 8 := by omega
          have hmn := sMan_lt hS hs
          refine v_iload dL_sound_64 rfl ?_
          refine v_bipush dL_sound_66 (by decide) ?_
          refine v_icmp_ge 367 dL_sound_68 (by decide) (by omega) (by decide) (fun h68 => ?_) (fun h68 => ?_)
          · skip
            exact absurd h68 (by omega)
          · skip
            refine v_iload dL_sound_71 rfl ?_
            refine v_if_eq 367 dL_sound_73 (by decide) (by decide) (fun h73 => ?_) (fun h73 => ?_)
            · skip
              exact absurd h73 (by decide)
            · skip
              refine v_iload_n 2 dL_sound_76 rfl rfl ?_
              refine v_aload_n 0 dL_sound_77 rfl rfl ?_
              refine v_iload dL_sound_78 rfl ?_
              refine v_iconst dL_sound_80 ?_
              refine oVv2 3 (q_stop hJ (by omega) (by decide)) k0_X3_stop ki_X3_stop ml_L_67 (rfl : SH 0 = _) (by decide) (vRo_of hxR (by decide) (by decide)) dL_sound_81 (Nat.le_of_ble_eq_true rfl) ?_
              refine o_eqI (u := v (24 + 5 * s + 4)) (as_4 v hs) ?_
              refine v_iadd dL_sound_84 ?_
              refine o_eqI (u := sGo v (s + 1)) (by rw [sGo]) ?_
              refine v_ist2 dL_sound_85 rfl ?_
              refine v_aload_n 0 dL_sound_86 rfl rfl ?_
              refine v_iload dL_sound_87 rfl ?_
              refine v_iconst dL_sound_89 ?_
              refine oVv2 3 (q_stop hJ (by omega) (by decide)) k0_X3_stop ki_X3_stop ml_L_67 (rfl : SH 0 = _) (by decide) (vRo_of hxR (by decide) (by decide)) dL_sound_90 (Nat.le_of_ble_eq_true rfl) ?_
              refine o_eqI (u := ((sMan v s : Nat) : Int)) ((as_0 v hs).trans hmn.2) ?_
              refine v_ist8 dL_sound_93 rfl ?_
              refine v_iconst dL_sound_95 ?_
              refine v_ist9 dL_sound_96 rfl ?_
              have lp98 : ∀ (dd2 k : Nat) (K : Mem) (c10 c11 : Option AV), k + dd2 = 24 → JX v r h ro ke kr t L K → xfr M K → vO x Q G cL_sound RL 98 [some (aR (some 0)), some (aI 3000), some (aI (sGo v (s + 1))), some (aI ((wO v (24 * s + k) : Nat) : Int)), some (aI ((sSp v (sDrw v) true (24 * s + k) : Nat) : Int)), some (aI (wF v (24 * s + k))), some (aI 1), some (aI (s : Int)), some (aI ((sMan v s : Nat) : Int)), some (aI (k : Int)), c10, c11] [] K := by
                intro dd2
                induction dd2 with
                | zero =>
                  intro k K c10 c11 hd2 hJ hF
                  obtain rfl : k = 24 := by omega
                  refine v_iload dL_sound_98 rfl ?_
                  refine v_bipush dL_sound_100 (by decide) ?_
                  refine v_icmp_ge 361 dL_sound_102 (by decide) (by omega) (by decide) (fun h102 => ?_) (fun h102 => ?_)
                  · skip
                    refine v_iinc7 dL_sound_361 rfl ?_
                    refine v_goto 64 dL_sound_364 (by decide) ?_
                    exact ih (s + 1) _ _ _ _ _ (by omega) hJ hF
                  · skip
                    exact absurd h102 (by omega)
                | succ dd2 ih2 =>
                  intro k K c10 c11 hd2 hJ hF
                  have hk : k < 24 := by omega
                  refine v_iload dL_sound_98 rfl ?_
                  refine v_bipush dL_sound_100 (by decide) ?_
                  refine v_icmp_ge 361 dL_sound_102 (by decide) (by omega) (by decide) (fun h102 => ?_) (fun h102 => ?_)
                  · skip
                    exact absurd h102 (by omega)
                  · skip
                    refine v_iload dL_sound_105 rfl ?_
                    refine v_if_eq 361 dL_sound_107 (by decide) (by decide) (fun h107 => ?_) (fun h107 => ?_)
                    · skip
                      exact absurd h107 (by decide)
                    · skip
                      refine v_aload_n 0 dL_sound_110 rfl rfl ?_
                      refine v_iload dL_sound_111 rfl ?_
                      refine v_iload dL_sound_113 rfl ?_
                      refine oVq2 3 (q_reason hJ (by omega) (by omega)) k0_X3_reason ki_X3_reason ml_L_70 (rfl : SH 0 = _) (by decide) (vRo_of hxR (by decide) (by decide)) dL_sound_115 (Nat.le_of_ble_eq_true rfl) (fun N hN => ?_)
                      have hJ := hN.1
                      have hF := xfr_tr hF hN.2
                      refine o_eqI (u := sRs v (sDrw v) true s k) (a_reason v hs hk) ?_
                      refine v_ist10 dL_sound_118 rfl ?_
                      refine v_aload_n 0 dL_sound_120 rfl rfl ?_
                      refine v_iload dL_sound_121 rfl ?_
                      refine v_iload dL_sound_123 rfl ?_
                      refine v_iconst dL_sound_125 ?_
                      refine oVq3 3 (q_pipe hJ (by omega) (by omega) (by decide)) k0_X3_pipe ki_X3_pipe ml_L_73 (rfl : SH 0 = _) (by decide) (vRo_of hxR (by decide) (by decide)) dL_sound_126 (Nat.le_of_ble_eq_true rfl) (fun N hN => ?_)
                      have hJ := hN.1
                      have hF := xfr_tr hF hN.2
                      refine o_eqI (u := sPi v s k 3) (ap_3 v hs hk) ?_
                      refine v_ist11 dL_sound_129 rfl ?_
                      rcases rs_cases hS hs hk with ⟨e, d, o⟩ | ⟨e, d, o, a⟩ | ⟨e, d, o⟩ | ⟨e, d, o⟩ | ⟨e, d, o⟩ | ⟨e, d, o, g0, g1, g2⟩
                      · skip
                        rw [e, (sPi_n o).2]
                        refine v_iload_n 3 dL_sound_131 rfl rfl ?_
                        refine v_iload dL_sound_132 rfl ?_
                        refine v_iconst dL_sound_134 ?_
                        refine v_icmp_eq 144 dL_sound_135 (by decide) (by decide) (by decide) (fun h135 => ?_) (fun h135 => ?_)
                        · skip
                          refine v_iconst dL_sound_144 ?_
                          refine v_goto 149 dL_sound_145 (by decide) ?_
                          refine v_iadd dL_sound_149 ?_
                          refine o_eqI (u := ((wO v (24 * s + (k + 1)) : Nat) : Int)) (by
                              rw [wO_step v s hk, if_neg o]
                              omega) ?_
                          refine v_ist3 dL_sound_150 rfl ?_
                          refine v_iload dL_sound_151 rfl ?_
                          refine v_iload dL_sound_153 rfl ?_
                          refine v_if_ne 162 dL_sound_155 (by decide) (by decide) (fun h155 => ?_) (fun h155 => ?_)
                          · skip
                            refine v_iconst dL_sound_162 ?_
                            refine v_iadd dL_sound_163 ?_
                            refine o_eqI (u := ((sSp v (sDrw v) true (24 * s + (k + 1)) : Nat) : Int)) (by
                                rw [sSp_step v s hk, e, if_neg (by decide)]
                                omega) ?_
                            refine v_ist4 dL_sound_164 rfl ?_
                            refine v_iload dL_sound_166 rfl ?_
                            refine v_iload dL_sound_168 rfl ?_
                            refine v_if_le 178 dL_sound_170 (by decide) (by decide) (fun h170 => ?_) (fun h170 => ?_)
                            · skip
                              refine v_iconst dL_sound_178 ?_
                              refine v_iadd dL_sound_179 ?_
                              refine o_eqI (u := wF v (24 * s + (k + 1))) (by rw [wF_step v s hk, sGt_0 hS hs hk o]) ?_
                              refine v_ist5 dL_sound_180 rfl ?_
                              refine v_iload dL_sound_182 rfl ?_
                              refine v_if_lt 272 dL_sound_184 (by decide) (by decide) (fun h184 => ?_) (fun h184 => ?_)
                              · skip
                                exact absurd h184 (by decide)
                              · skip
                                refine v_iload dL_sound_187 rfl ?_
                                refine v_iconst dL_sound_189 ?_
                                refine v_icmp_gt 272 dL_sound_190 (by decide) (by decide) (by decide) (fun h190 => ?_) (fun h190 => ?_)
                                · skip
                                  exact absurd h190 (by decide)
                                · skip
                                  refine v_iload dL_sound_193 rfl ?_
                                  refine v_iconst dL_sound_195 ?_
                                  refine v_icmp_ne 203 dL_sound_196 (by decide) (by decide) (by decide) (fun h196 => ?_) (fun h196 => ?_)
                                  · skip
                                    exact absurd h196 (by decide)
                                  · skip
                                    refine v_iconst dL_sound_199 ?_
                                    refine v_goto 204 dL_sound_200 (by decide) ?_
                                    refine v_aload_n 0 dL_sound_204 rfl rfl ?_
                                    refine v_iload dL_sound_205 rfl ?_
                                    refine v_iconst dL_sound_207 ?_
                                    refine oVv2 3 (q_stop hJ (by omega) (by decide)) k0_X3_stop ki_X3_stop ml_L_67 (rfl : SH 0 = _) (by decide) (vRo_of hxR (by decide) (by decide)) dL_sound_208 (Nat.le_of_ble_eq_true rfl) ?_
                                    refine o_eqI (u := 0) ((as_3 v hs).trans d) ?_
                                    refine v_if_ne 218 dL_sound_211 (by decide) (by decide) (fun h211 => ?_) (fun h211 => ?_)
                                    · skip
                                      exact absurd h211 (by decide)
                                    · skip
                                      refine v_iconst dL_sound_214 ?_
                                      refine v_goto 219 dL_sound_215 (by decide) ?_
                                      refine v_icmp_ne 272 dL_sound_219 (by decide) (by decide) (by decide) (fun h219 => ?_) (fun h219 => ?_)
                                      · skip
                                        exact absurd h219 (by decide)
                                      · skip
                                        refine v_iload dL_sound_222 rfl ?_
                                        refine v_ldc (-1000005) kc_L_77 (by decide) dL_sound_224 ?_
                                        refine v_icmp_ne 233 dL_sound_226 (by decide) (by decide) (by decide) (fun h226 => ?_) (fun h226 => ?_)
                                        · skip
                                          exact absurd h226 (by decide)
                                        · skip
                                          refine v_iconst dL_sound_229 ?_
                                          refine v_goto 234 dL_sound_230 (by decide) ?_
                                          refine v_iload dL_sound_234 rfl ?_
                                          refine v_iconst dL_sound_236 ?_
                                          refine v_icmp_eq 246 dL_sound_237 (by decide) (by decide) (by decide) (fun h237 => ?_) (fun h237 => ?_)
                                          · skip
                                            refine v_iconst dL_sound_246 ?_
                                            refine v_goto 251 dL_sound_247 (by decide) ?_
                                            refine v_icmp_ne 272 dL_sound_251 (by decide) (by decide) (by decide) (fun h251 => ?_) (fun h251 => ?_)
                                            · skip
                                              exact absurd h251 (by decide)
                                            · skip
                                              refine v_iload dL_sound_254 rfl ?_
                                              refine v_aload_n 0 dL_sound_256 rfl rfl ?_
                                              refine v_iload dL_sound_257 rfl ?_
                                              refine v_iload dL_sound_259 rfl ?_
                                              refine v_iconst dL_sound_261 ?_
                                              refine oVq3 3 (q_pipe hJ (by omega) (by omega) (by decide)) k0_X3_pipe ki_X3_pipe ml_L_73 (rfl : SH 0 = _) (by decide) (vRo_of hxR (by decide) (by decide)) dL_sound_262 (Nat.le_of_ble_eq_true rfl) (fun N hN => ?_)
                                              have hJ := hN.1
                                              have hF := xfr_tr hF hN.2
                                              refine o_eqI (u := -1000005) ((ap_2 v hs hk).trans (sPi_n o).1) ?_
                                              refine v_icmp_gt 272 dL_sound_265 (by decide) (by decide) (by decide) (fun h265 => ?_) (fun h265 => ?_)
                                              · skip
                                                exact absurd h265 (by decide)
                                              · skip
                                                refine v_iconst dL_sound_268 ?_
                                                refine v_goto 273 dL_sound_269 (by decide) ?_
                                                refine v_ist6 dL_sound_273 rfl ?_
                                                refine v_iload dL_sound_275 rfl ?_
                                                refine v_if_eq 352 dL_sound_277 (by decide) (by decide) (fun h277 => ?_) (fun h277 => ?_)
                                                · skip
                                                  exact absurd h277 (by decide)
                                                · skip
                                                  refine v_iload dL_sound_280 rfl ?_
                                                  refine v_if_ne 321 dL_sound_282 (by decide) (by decide) (fun h282 => ?_) (fun h282 => ?_)
                                                  · skip
                                                    refine v_iload dL_sound_321 rfl ?_
                                                    refine v_iconst dL_sound_323 ?_
                                                    refine v_icmp_eq 348 dL_sound_324 (by decide) (by decide) (by decide) (fun h324 => ?_) (fun h324 => ?_)
                                                    · skip
                                                      refine v_iconst dL_sound_348 ?_
                                                      refine v_goto 353 dL_sound_349 (by decide) ?_
                                                      refine v_ist6 dL_sound_353 rfl ?_
                                                      refine v_iinc9 dL_sound_355 rfl ?_
                                                      refine v_goto 98 dL_sound_358 (by decide) ?_
                                                      exact ih2 (k + 1) _ _ _ (by omega) hJ hF
                                                    · skip
                                                      exact absurd h324 (by decide)
                                                  · skip
                                                    exact absurd h282 (by decide)
                                          · skip
                                            exact absurd h237 (by decide)
                            · skip
                              exact absurd h170 (by decide)
                          · skip
                            exact absurd h155 (by decide)
                        · skip
                          exact absurd h135 (by decide)
                      · skip
                        rw [e, (sPi_n o).2]
                        refine v_iload_n 3 dL_sound_131 rfl rfl ?_
                        refine v_iload dL_sound_132 rfl ?_
                        refine v_iconst dL_sound_134 ?_
                        refine v_icmp_eq 144 dL_sound_135 (by decide) (by decide) (by decide) (fun h135 => ?_) (fun h135 => ?_)
                        · skip
                          exact absurd h135 (by decide)
                        · skip
                          refine v_iload dL_sound_138 rfl ?_
                          refine v_iconst dL_sound_140 ?_
                          refine v_icmp_ne 148 dL_sound_141 (by decide) (by decide) (by decide) (fun h141 => ?_) (fun h141 => ?_)
                          · skip
                            exact absurd h141 (by decide)
                          · skip
                            refine v_iconst dL_sound_144 ?_
                            refine v_goto 149 dL_sound_145 (by decide) ?_
                            refine v_iadd dL_sound_149 ?_
                            refine o_eqI (u := ((wO v (24 * s + (k + 1)) : Nat) : Int)) (by
                                rw [wO_step v s hk, if_neg o]
                                omega) ?_
                            refine v_ist3 dL_sound_150 rfl ?_
                            refine v_iload dL_sound_151 rfl ?_
                            refine v_iload dL_sound_153 rfl ?_
                            refine v_if_ne 162 dL_sound_155 (by decide) (by decide) (fun h155 => ?_) (fun h155 => ?_)
                            · skip
                              refine v_iconst dL_sound_162 ?_
                              refine v_iadd dL_sound_163 ?_
                              refine o_eqI (u := ((sSp v (sDrw v) true (24 * s + (k + 1)) : Nat) : Int)) (by
                                  rw [sSp_step v s hk, e, if_neg (by decide)]
                                  omega) ?_
                              refine v_ist4 dL_sound_164 rfl ?_
                              refine v_iload dL_sound_166 rfl ?_
                              refine v_iload dL_sound_168 rfl ?_
                              refine v_if_le 178 dL_sound_170 (by decide) (by decide) (fun h170 => ?_) (fun h170 => ?_)
                              · skip
                                refine v_iconst dL_sound_178 ?_
                                refine v_iadd dL_sound_179 ?_
                                refine o_eqI (u := wF v (24 * s + (k + 1))) (by rw [wF_step v s hk, sGt_0 hS hs hk o]) ?_
                                refine v_ist5 dL_sound_180 rfl ?_
                                refine v_iload dL_sound_182 rfl ?_
                                refine v_if_lt 272 dL_sound_184 (by decide) (by decide) (fun h184 => ?_) (fun h184 => ?_)
                                · skip
                                  exact absurd h184 (by decide)
                                · skip
                                  refine v_iload dL_sound_187 rfl ?_
                                  refine v_iconst dL_sound_189 ?_
                                  refine v_icmp_gt 272 dL_sound_190 (by decide) (by decide) (by decide) (fun h190 => ?_) (fun h190 => ?_)
                                  · skip
                                    exact absurd h190 (by decide)
                                  · skip
                                    refine v_iload dL_sound_193 rfl ?_
                                    refine v_iconst dL_sound_195 ?_
                                    refine v_icmp_ne 203 dL_sound_196 (by decide) (by decide) (by decide) (fun h196 => ?_) (fun h196 => ?_)
                                    · skip
                                      refine v_iconst dL_sound_203 ?_
                                      refine v_aload_n 0 dL_sound_204 rfl rfl ?_
                                      refine v_iload dL_sound_205 rfl ?_
                                      refine v_iconst dL_sound_207 ?_
                                      refine oVv2 3 (q_stop hJ (by omega) (by decide)) k0_X3_stop ki_X3_stop ml_L_67 (rfl : SH 0 = _) (by decide) (vRo_of hxR (by decide) (by decide)) dL_sound_208 (Nat.le_of_ble_eq_true rfl) ?_
                                      refine o_eqI (u := 1) ((as_3 v hs).trans d) ?_
                                      refine v_if_ne 218 dL_sound_211 (by decide) (by decide) (fun h211 => ?_) (fun h211 => ?_)
                                      · skip
                                        refine v_iconst dL_sound_218 ?_
                                        refine v_icmp_ne 272 dL_sound_219 (by decide) (by decide) (by decide) (fun h219 => ?_) (fun h219 => ?_)
                                        · skip
                                          exact absurd h219 (by decide)
                                        · skip
                                          refine v_iload dL_sound_222 rfl ?_
                                          refine v_ldc (-1000005) kc_L_77 (by decide) dL_sound_224 ?_
                                          refine v_icmp_ne 233 dL_sound_226 (by decide) (by decide) (by decide) (fun h226 => ?_) (fun h226 => ?_)
                                          · skip
                                            exact absurd h226 (by decide)
                                          · skip
                                            refine v_iconst dL_sound_229 ?_
                                            refine v_goto 234 dL_sound_230 (by decide) ?_
                                            refine v_iload dL_sound_234 rfl ?_
                                            refine v_iconst dL_sound_236 ?_
                                            refine v_icmp_eq 246 dL_sound_237 (by decide) (by decide) (by decide) (fun h237 => ?_) (fun h237 => ?_)
                                            · skip
                                              exact absurd h237 (by decide)
                                            · skip
                                              refine v_iload dL_sound_240 rfl ?_
                                              refine v_iconst dL_sound_242 ?_
                                              refine v_icmp_ne 250 dL_sound_243 (by decide) (by decide) (by decide) (fun h243 => ?_) (fun h243 => ?_)
                                              · skip
                                                exact absurd h243 (by decide)
                                              · skip
                                                refine v_iconst dL_sound_246 ?_
                                                refine v_goto 251 dL_sound_247 (by decide) ?_
                                                refine v_icmp_ne 272 dL_sound_251 (by decide) (by decide) (by decide) (fun h251 => ?_) (fun h251 => ?_)
                                                · skip
                                                  exact absurd h251 (by decide)
                                                · skip
                                                  refine v_iload dL_sound_254 rfl ?_
                                                  refine v_aload_n 0 dL_sound_256 rfl rfl ?_
                                                  refine v_iload dL_sound_257 rfl ?_
                                                  refine v_iload dL_sound_259 rfl ?_
                                                  refine v_iconst dL_sound_261 ?_
                                                  refine oVq3 3 (q_pipe hJ (by omega) (by omega) (by decide)) k0_X3_pipe ki_X3_pipe ml_L_73 (rfl : SH 0 = _) (by decide) (vRo_of hxR (by decide) (by decide)) dL_sound_262 (Nat.le_of_ble_eq_true rfl) (fun N hN => ?_)
                                                  have hJ := hN.1
                                                  have hF := xfr_tr hF hN.2
                                                  refine o_eqI (u := -1000005) ((ap_2 v hs hk).trans (sPi_n o).1) ?_
                                                  refine v_icmp_gt 272 dL_sound_265 (by decide) (by decide) (by decide) (fun h265 => ?_) (fun h265 => ?_)
                                                  · skip
                                                    exact absurd h265 (by decide)
                                                  · skip
                                                    refine v_iconst dL_sound_268 ?_
                                                    refine v_goto 273 dL_sound_269 (by decide) ?_
                                                    refine v_ist6 dL_sound_273 rfl ?_
                                                    refine v_iload dL_sound_275 rfl ?_
                                                    refine v_if_eq 352 dL_sound_277 (by decide) (by decide) (fun h277 => ?_) (fun h277 => ?_)
                                                    · skip
                                                      exact absurd h277 (by decide)
                                                    · skip
                                                      refine v_iload dL_sound_280 rfl ?_
                                                      refine v_if_ne 321 dL_sound_282 (by decide) (by decide) (fun h282 => ?_) (fun h282 => ?_)
                                                      · skip
                                                        refine v_iload dL_sound_321 rfl ?_
                                                        refine v_iconst dL_sound_323 ?_
                                                        refine v_icmp_eq 348 dL_sound_324 (by decide) (by decide) (by decide) (fun h324 => ?_) (fun h324 => ?_)
                                                        · skip
                                                          exact absurd h324 (by decide)
                                                        · skip
                                                          refine v_aload_n 0 dL_sound_327 rfl rfl ?_
                                                          refine v_iload dL_sound_328 rfl ?_
                                                          refine v_iconst dL_sound_330 ?_
                                                          refine oVq2 3 (q_chest hJ (by omega) (by decide)) k0_X3_chest ki_X3_chest ml_L_78 (rfl : SH 0 = _) (by decide) (vRo_of hxR (by decide) (by decide)) dL_sound_331 (Nat.le_of_ble_eq_true rfl) (fun N hN => ?_)
                                                          have hJ := hN.1
                                                          have hF := xfr_tr hF hN.2
                                                          refine o_eqI (u := ((sAct v true (sMan v s) : Nat) : Int)) (ac_2 v hmn.1) ?_
                                                          refine v_iload dL_sound_334 rfl ?_
                                                          refine v_ishr dL_sound_336 ?_
                                                          refine v_iconst dL_sound_337 ?_
                                                          refine v_iand dL_sound_338 ?_
                                                          refine o_eqI (u := 0) ((nu_bit (by omega) (by have := sAct_lt hS true (sMan v s); omega) (by omega)).trans (bP_f (by rw [a]; decide))) ?_
                                                          refine v_if_eq 348 dL_sound_339 (by decide) (by decide) (fun h339 => ?_) (fun h339 => ?_)
                                                          · skip
                                                            refine v_iconst dL_sound_348 ?_
                                                            refine v_goto 353 dL_sound_349 (by decide) ?_
                                                            refine v_ist6 dL_sound_353 rfl ?_
                                                            refine v_iinc9 dL_sound_355 rfl ?_
                                                            refine v_goto 98 dL_sound_358 (by decide) ?_
                                                            exact ih2 (k + 1) _ _ _ (by omega) hJ hF
                                                          · skip
                                                            exact absurd h339 (by decide)
                                                      · skip
                                                        exact absurd h282 (by decide)
                                      · skip
                                        exact absurd h211 (by decide)
                                    · skip
                                      exact absurd h196 (by decide)
                              · skip
                                exact absurd h170 (by decide)
                            · skip
                              exact absurd h155 (by decide)
                      · skip
                        rw [e, (sPi_2 o).2]
                        have hg := sGt_b hS (show 24 * s + k < 192 by omega)
                        refine v_iload_n 3 dL_sound_131 rfl rfl ?_
                        refine v_iload dL_sound_132 rfl ?_
                        refine v_iconst dL_sound_134 ?_
                        refine v_icmp_eq 144 dL_sound_135 (by decide) (by decide) (by decide) (fun h135 => ?_) (fun h135 => ?_)
                        · skip
                          exact absurd h135 (by decide)
                        · skip
                          refine v_iload dL_sound_138 rfl ?_
                          refine v_iconst dL_sound_140 ?_
                          refine v_icmp_ne 148 dL_sound_141 (by decide) (by decide) (by decide) (fun h141 => ?_) (fun h141 => ?_)
                          · skip
                            refine v_iconst dL_sound_148 ?_
                            refine v_iadd dL_sound_149 ?_
                            refine o_eqI (u := ((wO v (24 * s + (k + 1)) : Nat) : Int)) (by
                                rw [wO_step v s hk, if_pos o]
                                omega) ?_
                            refine v_ist3 dL_sound_150 rfl ?_
                            refine v_iload dL_sound_151 rfl ?_
                            refine v_iload dL_sound_153 rfl ?_
                            refine v_if_ne 162 dL_sound_155 (by decide) (by decide) (fun h155 => ?_) (fun h155 => ?_)
                            · skip
                              refine v_iconst dL_sound_162 ?_
                              refine v_iadd dL_sound_163 ?_
                              refine o_eqI (u := ((sSp v (sDrw v) true (24 * s + (k + 1)) : Nat) : Int)) (by
                                  rw [sSp_step v s hk, e, if_neg (by decide)]
                                  omega) ?_
                              refine v_ist4 dL_sound_164 rfl ?_
                              refine v_iload dL_sound_166 rfl ?_
                              refine v_iload dL_sound_168 rfl ?_
                              refine v_if_le 178 dL_sound_170 (by decide) (by omega) (fun h170 => ?_) (fun h170 => ?_)
                              · skip
                                refine v_iconst dL_sound_178 ?_
                                refine v_iadd dL_sound_179 ?_
                                refine o_eqI (u := wF v (24 * s + (k + 1))) (by
                                    rw [wF_step v s hk]
                                    try omega) ?_
                                refine v_ist5 dL_sound_180 rfl ?_
                                refine v_iload dL_sound_182 rfl ?_
                                refine v_if_lt 272 dL_sound_184 (by decide) (by decide) (fun h184 => ?_) (fun h184 => ?_)
                                · skip
                                  exact absurd h184 (by decide)
                                · skip
                                  refine v_iload dL_sound_187 rfl ?_
                                  refine v_iconst dL_sound_189 ?_
                                  refine v_icmp_gt 272 dL_sound_190 (by decide) (by decide) (by decide) (fun h190 => ?_) (fun h190 => ?_)
                                  · skip
                                    exact absurd h190 (by decide)
                                  · skip
                                    refine v_iload dL_sound_193 rfl ?_
                                    refine v_iconst dL_sound_195 ?_
                                    refine v_icmp_ne 203 dL_sound_196 (by decide) (by decide) (by decide) (fun h196 => ?_) (fun h196 => ?_)
                                    · skip
                                      refine v_iconst dL_sound_203 ?_
                                      refine v_aload_n 0 dL_sound_204 rfl rfl ?_
                                      refine v_iload dL_sound_205 rfl ?_
                                      refine v_iconst dL_sound_207 ?_
                                      refine oVv2 3 (q_stop hJ (by omega) (by decide)) k0_X3_stop ki_X3_stop ml_L_67 (rfl : SH 0 = _) (by decide) (vRo_of hxR (by decide) (by decide)) dL_sound_208 (Nat.le_of_ble_eq_true rfl) ?_
                                      refine o_eqI (u := 1) ((as_3 v hs).trans d) ?_
                                      refine v_if_ne 218 dL_sound_211 (by decide) (by decide) (fun h211 => ?_) (fun h211 => ?_)
                                      · skip
                                        refine v_iconst dL_sound_218 ?_
                                        refine v_icmp_ne 272 dL_sound_219 (by decide) (by decide) (by decide) (fun h219 => ?_) (fun h219 => ?_)
                                        · skip
                                          exact absurd h219 (by decide)
                                        · skip
                                          refine v_iload dL_sound_222 rfl ?_
                                          refine v_ldc (-1000005) kc_L_77 (by decide) dL_sound_224 ?_
                                          refine v_icmp_ne 233 dL_sound_226 (by decide) (by omega) (by decide) (fun h226 => ?_) (fun h226 => ?_)
                                          · skip
                                            refine v_iconst dL_sound_233 ?_
                                            refine v_iload dL_sound_234 rfl ?_
                                            refine v_iconst dL_sound_236 ?_
                                            refine v_icmp_eq 246 dL_sound_237 (by decide) (by decide) (by decide) (fun h237 => ?_) (fun h237 => ?_)
                                            · skip
                                              exact absurd h237 (by decide)
                                            · skip
                                              refine v_iload dL_sound_240 rfl ?_
                                              refine v_iconst dL_sound_242 ?_
                                              refine v_icmp_ne 250 dL_sound_243 (by decide) (by decide) (by decide) (fun h243 => ?_) (fun h243 => ?_)
                                              · skip
                                                refine v_iconst dL_sound_250 ?_
                                                refine v_icmp_ne 272 dL_sound_251 (by decide) (by decide) (by decide) (fun h251 => ?_) (fun h251 => ?_)
                                                · skip
                                                  exact absurd h251 (by decide)
                                                · skip
                                                  refine v_iload dL_sound_254 rfl ?_
                                                  refine v_aload_n 0 dL_sound_256 rfl rfl ?_
                                                  refine v_iload dL_sound_257 rfl ?_
                                                  refine v_iload dL_sound_259 rfl ?_
                                                  refine v_iconst dL_sound_261 ?_
                                                  refine oVq3 3 (q_pipe hJ (by omega) (by omega) (by decide)) k0_X3_pipe ki_X3_pipe ml_L_73 (rfl : SH 0 = _) (by decide) (vRo_of hxR (by decide) (by decide)) dL_sound_262 (Nat.le_of_ble_eq_true rfl) (fun N hN => ?_)
                                                  have hJ := hN.1
                                                  have hF := xfr_tr hF hN.2
                                                  refine o_eqI (u := sAs v (sDrw v) true (24 * s + k)) ((ap_2 v hs hk).trans (sPi_2 o).1) ?_
                                                  refine v_icmp_gt 272 dL_sound_265 (by decide) (by omega) (by omega) (fun h265 => ?_) (fun h265 => ?_)
                                                  · skip
                                                    exact absurd h265 (by omega)
                                                  · skip
                                                    refine v_iconst dL_sound_268 ?_
                                                    refine v_goto 273 dL_sound_269 (by decide) ?_
                                                    refine v_ist6 dL_sound_273 rfl ?_
                                                    refine v_iload dL_sound_275 rfl ?_
                                                    refine v_if_eq 352 dL_sound_277 (by decide) (by decide) (fun h277 => ?_) (fun h277 => ?_)
                                                    · skip
                                                      exact absurd h277 (by decide)
                                                    · skip
                                                      refine v_iload dL_sound_280 rfl ?_
                                                      refine v_if_ne 321 dL_sound_282 (by decide) (by decide) (fun h282 => ?_) (fun h282 => ?_)
                                                      · skip
                                                        refine v_iload dL_sound_321 rfl ?_
                                                        refine v_iconst dL_sound_323 ?_
                                                        refine v_icmp_eq 348 dL_sound_324 (by decide) (by decide) (by decide) (fun h324 => ?_) (fun h324 => ?_)
                                                        · skip
                                                          exact absurd h324 (by decide)
                                                        · skip
                                                          refine v_aload_n 0 dL_sound_327 rfl rfl ?_
                                                          refine v_iload dL_sound_328 rfl ?_
                                                          refine v_iconst dL_sound_330 ?_
                                                          refine oVq2 3 (q_chest hJ (by omega) (by decide)) k0_X3_chest ki_X3_chest ml_L_78 (rfl : SH 0 = _) (by decide) (vRo_of hxR (by decide) (by decide)) dL_sound_331 (Nat.le_of_ble_eq_true rfl) (fun N hN => ?_)
                                                          have hJ := hN.1
                                                          have hF := xfr_tr hF hN.2
                                                          refine o_eqI (u := ((sAct v true (sMan v s) : Nat) : Int)) (ac_2 v hmn.1) ?_
                                                          refine v_iload dL_sound_334 rfl ?_
                                                          refine v_ishr dL_sound_336 ?_
                                                          refine v_iconst dL_sound_337 ?_
                                                          refine v_iand dL_sound_338 ?_
                                                          refine o_eqI (u := bP (bt ((sAct v true (sMan v s) : Nat) : Int) k = true)) (nu_bit (by omega) (by have := sAct_lt hS true (sMan v s); omega) (by omega)) ?_
                                                          refine v_if_eq 348 dL_sound_339 (by decide) (bP_R _) (fun h339 => ?_) (fun h339 => ?_)
                                                          · skip
                                                            refine v_iconst dL_sound_348 ?_
                                                            refine v_goto 353 dL_sound_349 (by decide) ?_
                                                            refine v_ist6 dL_sound_353 rfl ?_
                                                            refine v_iinc9 dL_sound_355 rfl ?_
                                                            refine v_goto 98 dL_sound_358 (by decide) ?_
                                                            exact ih2 (k + 1) _ _ _ (by omega) hJ hF
                                                          · skip
                                                            refine v_iload dL_sound_342 rfl ?_
                                                            refine v_iconst dL_sound_344 ?_
                                                            refine v_icmp_eq 352 dL_sound_345 (by decide) (by decide) (by decide) (fun h345 => ?_) (fun h345 => ?_)
                                                            · skip
                                                              exact absurd h345 (by decide)
                                                            · skip
                                                              refine v_iconst dL_sound_348 ?_
                                                              refine v_goto 353 dL_sound_349 (by decide) ?_
                                                              refine v_ist6 dL_sound_353 rfl ?_
                                                              refine v_iinc9 dL_sound_355 rfl ?_
                                                              refine v_goto 98 dL_sound_358 (by decide) ?_
                                                              exact ih2 (k + 1) _ _ _ (by omega) hJ hF
                                                      · skip
                                                        exact absurd h282 (by decide)
                                              · skip
                                                exact absurd h243 (by decide)
                                          · skip
                                            exact absurd h226 (by omega)
                                      · skip
                                        exact absurd h211 (by decide)
                                    · skip
                                      exact absurd h196 (by decide)
                              · skip
                                refine v_iload dL_sound_173 rfl ?_
                                refine v_goto 179 dL_sound_175 (by decide) ?_
                                refine v_iadd dL_sound_179 ?_
                                refine o_eqI (u := wF v (24 * s + (k + 1))) (by
                                    rw [wF_step v s hk]
                                    try omega) ?_
                                refine v_ist5 dL_sound_180 rfl ?_
                                refine v_iload dL_sound_182 rfl ?_
                                refine v_if_lt 272 dL_sound_184 (by decide) (by decide) (fun h184 => ?_) (fun h184 => ?_)
                                · skip
                                  exact absurd h184 (by decide)
                                · skip
                                  refine v_iload dL_sound_187 rfl ?_
                                  refine v_iconst dL_sound_189 ?_
                                  refine v_icmp_gt 272 dL_sound_190 (by decide) (by decide) (by decide) (fun h190 => ?_) (fun h190 => ?_)
                                  · skip
                                    exact absurd h190 (by decide)
                                  · skip
                                    refine v_iload dL_sound_193 rfl ?_
                                    refine v_iconst dL_sound_195 ?_
                                    refine v_icmp_ne 203 dL_sound_196 (by decide) (by decide) (by decide) (fun h196 => ?_) (fun h196 => ?_)
                                    · skip
                                      refine v_iconst dL_sound_203 ?_
                                      refine v_aload_n 0 dL_sound_204 rfl rfl ?_
                                      refine v_iload dL_sound_205 rfl ?_
                                      refine v_iconst dL_sound_207 ?_
                                      refine oVv2 3 (q_stop hJ (by omega) (by decide)) k0_X3_stop ki_X3_stop ml_L_67 (rfl : SH 0 = _) (by decide) (vRo_of hxR (by decide) (by decide)) dL_sound_208 (Nat.le_of_ble_eq_true rfl) ?_
                                      refine o_eqI (u := 1) ((as_3 v hs).trans d) ?_
                                      refine v_if_ne 218 dL_sound_211 (by decide) (by decide) (fun h211 => ?_) (fun h211 => ?_)
                                      · skip
                                        refine v_iconst dL_sound_218 ?_
                                        refine v_icmp_ne 272 dL_sound_219 (by decide) (by decide) (by decide) (fun h219 => ?_) (fun h219 => ?_)
                                        · skip
                                          exact absurd h219 (by decide)
                                        · skip
                                          refine v_iload dL_sound_222 rfl ?_
                                          refine v_ldc (-1000005) kc_L_77 (by decide) dL_sound_224 ?_
                                          refine v_icmp_ne 233 dL_sound_226 (by decide) (by omega) (by decide) (fun h226 => ?_) (fun h226 => ?_)
                                          · skip
                                            refine v_iconst dL_sound_233 ?_
                                            refine v_iload dL_sound_234 rfl ?_
                                            refine v_iconst dL_sound_236 ?_
                                            refine v_icmp_eq 246 dL_sound_237 (by decide) (by decide) (by decide) (fun h237 => ?_) (fun h237 => ?_)
                                            · skip
                                              exact absurd h237 (by decide)
                                            · skip
                                              refine v_iload dL_sound_240 rfl ?_
                                              refine v_iconst dL_sound_242 ?_
                                              refine v_icmp_ne 250 dL_sound_243 (by decide) (by decide) (by decide) (fun h243 => ?_) (fun h243 => ?_)
                                              · skip
                                                refine v_iconst dL_sound_250 ?_
                                                refine v_icmp_ne 272 dL_sound_251 (by decide) (by decide) (by decide) (fun h251 => ?_) (fun h251 => ?_)
                                                · skip
                                                  exact absurd h251 (by decide)
                                                · skip
                                                  refine v_iload dL_sound_254 rfl ?_
                                                  refine v_aload_n 0 dL_sound_256 rfl rfl ?_
                                                  refine v_iload dL_sound_257 rfl ?_
                                                  refine v_iload dL_sound_259 rfl ?_
                                                  refine v_iconst dL_sound_261 ?_
                                                  refine oVq3 3 (q_pipe hJ (by omega) (by omega) (by decide)) k0_X3_pipe ki_X3_pipe ml_L_73 (rfl : SH 0 = _) (by decide) (vRo_of hxR (by decide) (by decide)) dL_sound_262 (Nat.le_of_ble_eq_true rfl) (fun N hN => ?_)
                                                  have hJ := hN.1
                                                  have hF := xfr_tr hF hN.2
                                                  refine o_eqI (u := sAs v (sDrw v) true (24 * s + k)) ((ap_2 v hs hk).trans (sPi_2 o).1) ?_
                                                  refine v_icmp_gt 272 dL_sound_265 (by decide) (by omega) (by omega) (fun h265 => ?_) (fun h265 => ?_)
                                                  · skip
                                                    exact absurd h265 (by omega)
                                                  · skip
                                                    refine v_iconst dL_sound_268 ?_
                                                    refine v_goto 273 dL_sound_269 (by decide) ?_
                                                    refine v_ist6 dL_sound_273 rfl ?_
                                                    refine v_iload dL_sound_275 rfl ?_
                                                    refine v_if_eq 352 dL_sound_277 (by decide) (by decide) (fun h277 => ?_) (fun h277 => ?_)
                                                    · skip
                                                      exact absurd h277 (by decide)
                                                    · skip
                                                      refine v_iload dL_sound_280 rfl ?_
                                                      refine v_if_ne 321 dL_sound_282 (by decide) (by decide) (fun h282 => ?_) (fun h282 => ?_)
                                                      · skip
                                                        refine v_iload dL_sound_321 rfl ?_
                                                        refine v_iconst dL_sound_323 ?_
                                                        refine v_icmp_eq 348 dL_sound_324 (by decide) (by decide) (by decide) (fun h324 => ?_) (fun h324 => ?_)
                                                        · skip
                                                          exact absurd h324 (by decide)
                                                        · skip
                                                          refine v_aload_n 0 dL_sound_327 rfl rfl ?_
                                                          refine v_iload dL_sound_328 rfl ?_
                                                          refine v_iconst dL_sound_330 ?_
                                                          refine oVq2 3 (q_chest hJ (by omega) (by decide)) k0_X3_chest ki_X3_chest ml_L_78 (rfl : SH 0 = _) (by decide) (vRo_of hxR (by decide) (by decide)) dL_sound_331 (Nat.le_of_ble_eq_true rfl) (fun N hN => ?_)
                                                          have hJ := hN.1
                                                          have hF := xfr_tr hF hN.2
                                                          refine o_eqI (u := ((sAct v true (sMan v s) : Nat) : Int)) (ac_2 v hmn.1) ?_
                                                          refine v_iload dL_sound_334 rfl ?_
                                                          refine v_ishr dL_sound_336 ?_
                                                          refine v_iconst dL_sound_337 ?_
                                                          refine v_iand dL_sound_338 ?_
                                                          refine o_eqI (u := bP (bt ((sAct v true (sMan v s) : Nat) : Int) k = true)) (nu_bit (by omega) (by have := sAct_lt hS true (sMan v s); omega) (by omega)) ?_
                                                          refine v_if_eq 348 dL_sound_339 (by decide) (bP_R _) (fun h339 => ?_) (fun h339 => ?_)
                                                          · skip
                                                            refine v_iconst dL_sound_348 ?_
                                                            refine v_goto 353 dL_sound_349 (by decide) ?_
                                                            refine v_ist6 dL_sound_353 rfl ?_
                                                            refine v_iinc9 dL_sound_355 rfl ?_
                                                            refine v_goto 98 dL_sound_358 (by decide) ?_
                                                            exact ih2 (k + 1) _ _ _ (by omega) hJ hF
                                                          · skip
                                                            refine v_iload dL_sound_342 rfl ?_
                                                            refine v_iconst dL_sound_344 ?_
                                                            refine v_icmp_eq 352 dL_sound_345 (by decide) (by decide) (by decide) (fun h345 => ?_) (fun h345 => ?_)
                                                            · skip
                                                              exact absurd h345 (by decide)
                                                            · skip
                                                              refine v_iconst dL_sound_348 ?_
                                                              refine v_goto 353 dL_sound_349 (by decide) ?_
                                                              refine v_ist6 dL_sound_353 rfl ?_
                                                              refine v_iinc9 dL_sound_355 rfl ?_
                                                              refine v_goto 98 dL_sound_358 (by decide) ?_
                                                              exact ih2 (k + 1) _ _ _ (by omega) hJ hF
                                                      · skip
                                                        exact absurd h282 (by decide)
                                              · skip
                                                exact absurd h243 (by decide)
                                          · skip
                                            exact absurd h226 (by omega)
                                      · skip
                                        exact absurd h211 (by decide)
                                    · skip
                                      exact absurd h196 (by decide)
                            · skip
                              exact absurd h155 (by decide)
                          · skip
                            exact absurd h141 (by decide)
                      · skip
                        rw [e, (sPi_2 o).2]
                        have hg := sGt_b hS (show 24 * s + k < 192 by omega)
                        refine v_iload_n 3 dL_sound_131 rfl rfl ?_
                        refine v_iload dL_sound_132 rfl ?_
                        refine v_iconst dL_sound_134 ?_
                        refine v_icmp_eq 144 dL_sound_135 (by decide) (by decide) (by decide) (fun h135 => ?_) (fun h135 => ?_)
                        · skip
                          exact absurd h135 (by decide)
                        · skip
                          refine v_iload dL_sound_138 rfl ?_
                          refine v_iconst dL_sound_140 ?_
                          refine v_icmp_ne 148 dL_sound_141 (by decide) (by decide) (by decide) (fun h141 => ?_) (fun h141 => ?_)
                          · skip
                            refine v_iconst dL_sound_148 ?_
                            refine v_iadd dL_sound_149 ?_
                            refine o_eqI (u := ((wO v (24 * s + (k + 1)) : Nat) : Int)) (by
                                rw [wO_step v s hk, if_pos o]
                                omega) ?_
                            refine v_ist3 dL_sound_150 rfl ?_
                            refine v_iload dL_sound_151 rfl ?_
                            refine v_iload dL_sound_153 rfl ?_
                            refine v_if_ne 162 dL_sound_155 (by decide) (by decide) (fun h155 => ?_) (fun h155 => ?_)
                            · skip
                              refine v_iconst dL_sound_162 ?_
                              refine v_iadd dL_sound_163 ?_
                              refine o_eqI (u := ((sSp v (sDrw v) true (24 * s + (k + 1)) : Nat) : Int)) (by
                                  rw [sSp_step v s hk, e, if_neg (by decide)]
                                  omega) ?_
                              refine v_ist4 dL_sound_164 rfl ?_
                              refine v_iload dL_sound_166 rfl ?_
                              refine v_iload dL_sound_168 rfl ?_
                              refine v_if_le 178 dL_sound_170 (by decide) (by omega) (fun h170 => ?_) (fun h170 => ?_)
                              · skip
                                refine v_iconst dL_sound_178 ?_
                                refine v_iadd dL_sound_179 ?_
                                refine o_eqI (u := wF v (24 * s + (k + 1))) (by
                                    rw [wF_step v s hk]
                                    try omega) ?_
                                refine v_ist5 dL_sound_180 rfl ?_
                                refine v_iload dL_sound_182 rfl ?_
                                refine v_if_lt 272 dL_sound_184 (by decide) (by decide) (fun h184 => ?_) (fun h184 => ?_)
                                · skip
                                  exact absurd h184 (by decide)
                                · skip
                                  refine v_iload dL_sound_187 rfl ?_
                                  refine v_iconst dL_sound_189 ?_
                                  refine v_icmp_gt 272 dL_sound_190 (by decide) (by decide) (by decide) (fun h190 => ?_) (fun h190 => ?_)
                                  · skip
                                    exact absurd h190 (by decide)
                                  · skip
                                    refine v_iload dL_sound_193 rfl ?_
                                    refine v_iconst dL_sound_195 ?_
                                    refine v_icmp_ne 203 dL_sound_196 (by decide) (by decide) (by decide) (fun h196 => ?_) (fun h196 => ?_)
                                    · skip
                                      refine v_iconst dL_sound_203 ?_
                                      refine v_aload_n 0 dL_sound_204 rfl rfl ?_
                                      refine v_iload dL_sound_205 rfl ?_
                                      refine v_iconst dL_sound_207 ?_
                                      refine oVv2 3 (q_stop hJ (by omega) (by decide)) k0_X3_stop ki_X3_stop ml_L_67 (rfl : SH 0 = _) (by decide) (vRo_of hxR (by decide) (by decide)) dL_sound_208 (Nat.le_of_ble_eq_true rfl) ?_
                                      refine o_eqI (u := 1) ((as_3 v hs).trans d) ?_
                                      refine v_if_ne 218 dL_sound_211 (by decide) (by decide) (fun h211 => ?_) (fun h211 => ?_)
                                      · skip
                                        refine v_iconst dL_sound_218 ?_
                                        refine v_icmp_ne 272 dL_sound_219 (by decide) (by decide) (by decide) (fun h219 => ?_) (fun h219 => ?_)
                                        · skip
                                          exact absurd h219 (by decide)
                                        · skip
                                          refine v_iload dL_sound_222 rfl ?_
                                          refine v_ldc (-1000005) kc_L_77 (by decide) dL_sound_224 ?_
                                          refine v_icmp_ne 233 dL_sound_226 (by decide) (by omega) (by decide) (fun h226 => ?_) (fun h226 => ?_)
                                          · skip
                                            refine v_iconst dL_sound_233 ?_
                                            refine v_iload dL_sound_234 rfl ?_
                                            refine v_iconst dL_sound_236 ?_
                                            refine v_icmp_eq 246 dL_sound_237 (by decide) (by decide) (by decide) (fun h237 => ?_) (fun h237 => ?_)
                                            · skip
                                              exact absurd h237 (by decide)
                                            · skip
                                              refine v_iload dL_sound_240 rfl ?_
                                              refine v_iconst dL_sound_242 ?_
                                              refine v_icmp_ne 250 dL_sound_243 (by decide) (by decide) (by decide) (fun h243 => ?_) (fun h243 => ?_)
                                              · skip
                                                refine v_iconst dL_sound_250 ?_
                                                refine v_icmp_ne 272 dL_sound_251 (by decide) (by decide) (by decide) (fun h251 => ?_) (fun h251 => ?_)
                                                · skip
                                                  exact absurd h251 (by decide)
                                                · skip
                                                  refine v_iload dL_sound_254 rfl ?_
                                                  refine v_aload_n 0 dL_sound_256 rfl rfl ?_
                                                  refine v_iload dL_sound_257 rfl ?_
                                                  refine v_iload dL_sound_259 rfl ?_
                                                  refine v_iconst dL_sound_261 ?_
                                                  refine oVq3 3 (q_pipe hJ (by omega) (by omega) (by decide)) k0_X3_pipe ki_X3_pipe ml_L_73 (rfl : SH 0 = _) (by decide) (vRo_of hxR (by decide) (by decide)) dL_sound_262 (Nat.le_of_ble_eq_true rfl) (fun N hN => ?_)
                                                  have hJ := hN.1
                                                  have hF := xfr_tr hF hN.2
                                                  refine o_eqI (u := sAs v (sDrw v) true (24 * s + k)) ((ap_2 v hs hk).trans (sPi_2 o).1) ?_
                                                  refine v_icmp_gt 272 dL_sound_265 (by decide) (by omega) (by omega) (fun h265 => ?_) (fun h265 => ?_)
                                                  · skip
                                                    exact absurd h265 (by omega)
                                                  · skip
                                                    refine v_iconst dL_sound_268 ?_
                                                    refine v_goto 273 dL_sound_269 (by decide) ?_
                                                    refine v_ist6 dL_sound_273 rfl ?_
                                                    refine v_iload dL_sound_275 rfl ?_
                                                    refine v_if_eq 352 dL_sound_277 (by decide) (by decide) (fun h277 => ?_) (fun h277 => ?_)
                                                    · skip
                                                      exact absurd h277 (by decide)
                                                    · skip
                                                      refine v_iload dL_sound_280 rfl ?_
                                                      refine v_if_ne 321 dL_sound_282 (by decide) (by decide) (fun h282 => ?_) (fun h282 => ?_)
                                                      · skip
                                                        refine v_iload dL_sound_321 rfl ?_
                                                        refine v_iconst dL_sound_323 ?_
                                                        refine v_icmp_eq 348 dL_sound_324 (by decide) (by decide) (by decide) (fun h324 => ?_) (fun h324 => ?_)
                                                        · skip
                                                          exact absurd h324 (by decide)
                                                        · skip
                                                          refine v_aload_n 0 dL_sound_327 rfl rfl ?_
                                                          refine v_iload dL_sound_328 rfl ?_
                                                          refine v_iconst dL_sound_330 ?_
                                                          refine oVq2 3 (q_chest hJ (by omega) (by decide)) k0_X3_chest ki_X3_chest ml_L_78 (rfl : SH 0 = _) (by decide) (vRo_of hxR (by decide) (by decide)) dL_sound_331 (Nat.le_of_ble_eq_true rfl) (fun N hN => ?_)
                                                          have hJ := hN.1
                                                          have hF := xfr_tr hF hN.2
                                                          refine o_eqI (u := ((sAct v true (sMan v s) : Nat) : Int)) (ac_2 v hmn.1) ?_
                                                          refine v_iload dL_sound_334 rfl ?_
                                                          refine v_ishr dL_sound_336 ?_
                                                          refine v_iconst dL_sound_337 ?_
                                                          refine v_iand dL_sound_338 ?_
                                                          refine o_eqI (u := bP (bt ((sAct v true (sMan v s) : Nat) : Int) k = true)) (nu_bit (by omega) (by have := sAct_lt hS true (sMan v s); omega) (by omega)) ?_
                                                          refine v_if_eq 348 dL_sound_339 (by decide) (bP_R _) (fun h339 => ?_) (fun h339 => ?_)
                                                          · skip
                                                            refine v_iconst dL_sound_348 ?_
                                                            refine v_goto 353 dL_sound_349 (by decide) ?_
                                                            refine v_ist6 dL_sound_353 rfl ?_
                                                            refine v_iinc9 dL_sound_355 rfl ?_
                                                            refine v_goto 98 dL_sound_358 (by decide) ?_
                                                            exact ih2 (k + 1) _ _ _ (by omega) hJ hF
                                                          · skip
                                                            refine v_iload dL_sound_342 rfl ?_
                                                            refine v_iconst dL_sound_344 ?_
                                                            refine v_icmp_eq 352 dL_sound_345 (by decide) (by decide) (by decide) (fun h345 => ?_) (fun h345 => ?_)
                                                            · skip
                                                              exact absurd h345 (by decide)
                                                            · skip
                                                              refine v_iconst dL_sound_348 ?_
                                                              refine v_goto 353 dL_sound_349 (by decide) ?_
                                                              refine v_ist6 dL_sound_353 rfl ?_
                                                              refine v_iinc9 dL_sound_355 rfl ?_
                                                              refine v_goto 98 dL_sound_358 (by decide) ?_
                                                              exact ih2 (k + 1) _ _ _ (by omega) hJ hF
                                                      · skip
                                                        exact absurd h282 (by decide)
                                              · skip
                                                exact absurd h243 (by decide)
                                          · skip
                                            exact absurd h226 (by omega)
                                      · skip
                                        exact absurd h211 (by decide)
                                    · skip
                                      exact absurd h196 (by decide)
                              · skip
                                refine v_iload dL_sound_173 rfl ?_
                                refine v_goto 179 dL_sound_175 (by decide) ?_
                                refine v_iadd dL_sound_179 ?_
                                refine o_eqI (u := wF v (24 * s + (k + 1))) (by
                                    rw [wF_step v s hk]
                                    try omega) ?_
                                refine v_ist5 dL_sound_180 rfl ?_
                                refine v_iload dL_sound_182 rfl ?_
                                refine v_if_lt 272 dL_sound_184 (by decide) (by decide) (fun h184 => ?_) (fun h184 => ?_)
                                · skip
                                  exact absurd h184 (by decide)
                                · skip
                                  refine v_iload dL_sound_187 rfl ?_
                                  refine v_iconst dL_sound_189 ?_
                                  refine v_icmp_gt 272 dL_sound_190 (by decide) (by decide) (by decide) (fun h190 => ?_) (fun h190 => ?_)
                                  · skip
                                    exact absurd h190 (by decide)
                                  · skip
                                    refine v_iload dL_sound_193 rfl ?_
                                    refine v_iconst dL_sound_195 ?_
                                    refine v_icmp_ne 203 dL_sound_196 (by decide) (by decide) (by decide) (fun h196 => ?_) (fun h196 => ?_)
                                    · skip
                                      refine v_iconst dL_sound_203 ?_
                                      refine v_aload_n 0 dL_sound_204 rfl rfl ?_
                                      refine v_iload dL_sound_205 rfl ?_
                                      refine v_iconst dL_sound_207 ?_
                                      refine oVv2 3 (q_stop hJ (by omega) (by decide)) k0_X3_stop ki_X3_stop ml_L_67 (rfl : SH 0 = _) (by decide) (vRo_of hxR (by decide) (by decide)) dL_sound_208 (Nat.le_of_ble_eq_true rfl) ?_
                                      refine o_eqI (u := 1) ((as_3 v hs).trans d) ?_
                                      refine v_if_ne 218 dL_sound_211 (by decide) (by decide) (fun h211 => ?_) (fun h211 => ?_)
                                      · skip
                                        refine v_iconst dL_sound_218 ?_
                                        refine v_icmp_ne 272 dL_sound_219 (by decide) (by decide) (by decide) (fun h219 => ?_) (fun h219 => ?_)
                                        · skip
                                          exact absurd h219 (by decide)
                                        · skip
                                          refine v_iload dL_sound_222 rfl ?_
                                          refine v_ldc (-1000005) kc_L_77 (by decide) dL_sound_224 ?_
                                          refine v_icmp_ne 233 dL_sound_226 (by decide) (by omega) (by decide) (fun h226 => ?_) (fun h226 => ?_)
                                          · skip
                                            refine v_iconst dL_sound_233 ?_
                                            refine v_iload dL_sound_234 rfl ?_
                                            refine v_iconst dL_sound_236 ?_
                                            refine v_icmp_eq 246 dL_sound_237 (by decide) (by decide) (by decide) (fun h237 => ?_) (fun h237 => ?_)
                                            · skip
                                              exact absurd h237 (by decide)
                                            · skip
                                              refine v_iload dL_sound_240 rfl ?_
                                              refine v_iconst dL_sound_242 ?_
                                              refine v_icmp_ne 250 dL_sound_243 (by decide) (by decide) (by decide) (fun h243 => ?_) (fun h243 => ?_)
                                              · skip
                                                refine v_iconst dL_sound_250 ?_
                                                refine v_icmp_ne 272 dL_sound_251 (by decide) (by decide) (by decide) (fun h251 => ?_) (fun h251 => ?_)
                                                · skip
                                                  exact absurd h251 (by decide)
                                                · skip
                                                  refine v_iload dL_sound_254 rfl ?_
                                                  refine v_aload_n 0 dL_sound_256 rfl rfl ?_
                                                  refine v_iload dL_sound_257 rfl ?_
                                                  refine v_iload dL_sound_259 rfl ?_
                                                  refine v_iconst dL_sound_261 ?_
                                                  refine oVq3 3 (q_pipe hJ (by omega) (by omega) (by decide)) k0_X3_pipe ki_X3_pipe ml_L_73 (rfl : SH 0 = _) (by decide) (vRo_of hxR (by decide) (by decide)) dL_sound_262 (Nat.le_of_ble_eq_true rfl) (fun N hN => ?_)
                                                  have hJ := hN.1
                                                  have hF := xfr_tr hF hN.2
                                                  refine o_eqI (u := sAs v (sDrw v) true (24 * s + k)) ((ap_2 v hs hk).trans (sPi_2 o).1) ?_
                                                  refine v_icmp_gt 272 dL_sound_265 (by decide) (by omega) (by omega) (fun h265 => ?_) (fun h265 => ?_)
                                                  · skip
                                                    exact absurd h265 (by omega)
                                                  · skip
                                                    refine v_iconst dL_sound_268 ?_
                                                    refine v_goto 273 dL_sound_269 (by decide) ?_
                                                    refine v_ist6 dL_sound_273 rfl ?_
                                                    refine v_iload dL_sound_275 rfl ?_
                                                    refine v_if_eq 352 dL_sound_277 (by decide) (by decide) (fun h277 => ?_) (fun h277 => ?_)
                                                    · skip
                                                      exact absurd h277 (by decide)
                                                    · skip
                                                      refine v_iload dL_sound_280 rfl ?_
                                                      refine v_if_ne 321 dL_sound_282 (by decide) (by decide) (fun h282 => ?_) (fun h282 => ?_)
                                                      · skip
                                                        refine v_iload dL_sound_321 rfl ?_
                                                        refine v_iconst dL_sound_323 ?_
                                                        refine v_icmp_eq 348 dL_sound_324 (by decide) (by decide) (by decide) (fun h324 => ?_) (fun h324 => ?_)
                                                        · skip
                                                          exact absurd h324 (by decide)
                                                        · skip
                                                          refine v_aload_n 0 dL_sound_327 rfl rfl ?_
                                                          refine v_iload dL_sound_328 rfl ?_
                                                          refine v_iconst dL_sound_330 ?_
                                                          refine oVq2 3 (q_chest hJ (by omega) (by decide)) k0_X3_chest ki_X3_chest ml_L_78 (rfl : SH 0 = _) (by decide) (vRo_of hxR (by decide) (by decide)) dL_sound_331 (Nat.le_of_ble_eq_true rfl) (fun N hN => ?_)
                                                          have hJ := hN.1
                                                          have hF := xfr_tr hF hN.2
                                                          refine o_eqI (u := ((sAct v true (sMan v s) : Nat) : Int)) (ac_2 v hmn.1) ?_
                                                          refine v_iload dL_sound_334 rfl ?_
                                                          refine v_ishr dL_sound_336 ?_
                                                          refine v_iconst dL_sound_337 ?_
                                                          refine v_iand dL_sound_338 ?_
                                                          refine o_eqI (u := bP (bt ((sAct v true (sMan v s) : Nat) : Int) k = true)) (nu_bit (by omega) (by have := sAct_lt hS true (sMan v s); omega) (by omega)) ?_
                                                          refine v_if_eq 348 dL_sound_339 (by decide) (bP_R _) (fun h339 => ?_) (fun h339 => ?_)
                                                          · skip
                                                            refine v_iconst dL_sound_348 ?_
                                                            refine v_goto 353 dL_sound_349 (by decide) ?_
                                                            refine v_ist6 dL_sound_353 rfl ?_
                                                            refine v_iinc9 dL_sound_355 rfl ?_
                                                            refine v_goto 98 dL_sound_358 (by decide) ?_
                                                            exact ih2 (k + 1) _ _ _ (by omega) hJ hF
                                                          · skip
                                                            refine v_iload dL_sound_342 rfl ?_
                                                            refine v_iconst dL_sound_344 ?_
                                                            refine v_icmp_eq 352 dL_sound_345 (by decide) (by decide) (by decide) (fun h345 => ?_) (fun h345 => ?_)
                                                            · skip
                                                              exact absurd h345 (by decide)
                                                            · skip
                                                              refine v_iconst dL_sound_348 ?_
                                                              refine v_goto 353 dL_sound_349 (by decide) ?_
                                                              refine v_ist6 dL_sound_353 rfl ?_
                                                              refine v_iinc9 dL_sound_355 rfl ?_
                                                              refine v_goto 98 dL_sound_358 (by decide) ?_
                                                              exact ih2 (k + 1) _ _ _ (by omega) hJ hF
                                                      · skip
                                                        exact absurd h282 (by decide)
                                              · skip
                                                exact absurd h243 (by decide)
                                          · skip
                                            exact absurd h226 (by omega)
                                      · skip
                                        exact absurd h211 (by decide)
                                    · skip
                                      exact absurd h196 (by decide)
                            · skip
                              exact absurd h155 (by decide)
                          · skip
                            exact absurd h141 (by decide)
                      · skip
                        rw [e, (sPi_2 o).2]
                        have hg := sGt_b hS (show 24 * s + k < 192 by omega)
                        refine v_iload_n 3 dL_sound_131 rfl rfl ?_
                        refine v_iload dL_sound_132 rfl ?_
                        refine v_iconst dL_sound_134 ?_
                        refine v_icmp_eq 144 dL_sound_135 (by decide) (by decide) (by decide) (fun h135 => ?_) (fun h135 => ?_)
                        · skip
                          exact absurd h135 (by decide)
                        · skip
                          refine v_iload dL_sound_138 rfl ?_
                          refine v_iconst dL_sound_140 ?_
                          refine v_icmp_ne 148 dL_sound_141 (by decide) (by decide) (by decide) (fun h141 => ?_) (fun h141 => ?_)
                          · skip
                            refine v_iconst dL_sound_148 ?_
                            refine v_iadd dL_sound_149 ?_
                            refine o_eqI (u := ((wO v (24 * s + (k + 1)) : Nat) : Int)) (by
                                rw [wO_step v s hk, if_pos o]
                                omega) ?_
                            refine v_ist3 dL_sound_150 rfl ?_
                            refine v_iload dL_sound_151 rfl ?_
                            refine v_iload dL_sound_153 rfl ?_
                            refine v_if_ne 162 dL_sound_155 (by decide) (by decide) (fun h155 => ?_) (fun h155 => ?_)
                            · skip
                              refine v_iconst dL_sound_162 ?_
                              refine v_iadd dL_sound_163 ?_
                              refine o_eqI (u := ((sSp v (sDrw v) true (24 * s + (k + 1)) : Nat) : Int)) (by
                                  rw [sSp_step v s hk, e, if_neg (by decide)]
                                  omega) ?_
                              refine v_ist4 dL_sound_164 rfl ?_
                              refine v_iload dL_sound_166 rfl ?_
                              refine v_iload dL_sound_168 rfl ?_
                              refine v_if_le 178 dL_sound_170 (by decide) (by omega) (fun h170 => ?_) (fun h170 => ?_)
                              · skip
                                refine v_iconst dL_sound_178 ?_
                                refine v_iadd dL_sound_179 ?_
                                refine o_eqI (u := wF v (24 * s + (k + 1))) (by
                                    rw [wF_step v s hk]
                                    try omega) ?_
                                refine v_ist5 dL_sound_180 rfl ?_
                                refine v_iload dL_sound_182 rfl ?_
                                refine v_if_lt 272 dL_sound_184 (by decide) (by decide) (fun h184 => ?_) (fun h184 => ?_)
                                · skip
                                  exact absurd h184 (by decide)
                                · skip
                                  refine v_iload dL_sound_187 rfl ?_
                                  refine v_iconst dL_sound_189 ?_
                                  refine v_icmp_gt 272 dL_sound_190 (by decide) (by decide) (by decide) (fun h190 => ?_) (fun h190 => ?_)
                                  · skip
                                    exact absurd h190 (by decide)
                                  · skip
                                    refine v_iload dL_sound_193 rfl ?_
                                    refine v_iconst dL_sound_195 ?_
                                    refine v_icmp_ne 203 dL_sound_196 (by decide) (by decide) (by decide) (fun h196 => ?_) (fun h196 => ?_)
                                    · skip
                                      refine v_iconst dL_sound_203 ?_
                                      refine v_aload_n 0 dL_sound_204 rfl rfl ?_
                                      refine v_iload dL_sound_205 rfl ?_
                                      refine v_iconst dL_sound_207 ?_
                                      refine oVv2 3 (q_stop hJ (by omega) (by decide)) k0_X3_stop ki_X3_stop ml_L_67 (rfl : SH 0 = _) (by decide) (vRo_of hxR (by decide) (by decide)) dL_sound_208 (Nat.le_of_ble_eq_true rfl) ?_
                                      refine o_eqI (u := 1) ((as_3 v hs).trans d) ?_
                                      refine v_if_ne 218 dL_sound_211 (by decide) (by decide) (fun h211 => ?_) (fun h211 => ?_)
                                      · skip
                                        refine v_iconst dL_sound_218 ?_
                                        refine v_icmp_ne 272 dL_sound_219 (by decide) (by decide) (by decide) (fun h219 => ?_) (fun h219 => ?_)
                                        · skip
                                          exact absurd h219 (by decide)
                                        · skip
                                          refine v_iload dL_sound_222 rfl ?_
                                          refine v_ldc (-1000005) kc_L_77 (by decide) dL_sound_224 ?_
                                          refine v_icmp_ne 233 dL_sound_226 (by decide) (by omega) (by decide) (fun h226 => ?_) (fun h226 => ?_)
                                          · skip
                                            refine v_iconst dL_sound_233 ?_
                                            refine v_iload dL_sound_234 rfl ?_
                                            refine v_iconst dL_sound_236 ?_
                                            refine v_icmp_eq 246 dL_sound_237 (by decide) (by decide) (by decide) (fun h237 => ?_) (fun h237 => ?_)
                                            · skip
                                              exact absurd h237 (by decide)
                                            · skip
                                              refine v_iload dL_sound_240 rfl ?_
                                              refine v_iconst dL_sound_242 ?_
                                              refine v_icmp_ne 250 dL_sound_243 (by decide) (by decide) (by decide) (fun h243 => ?_) (fun h243 => ?_)
                                              · skip
                                                refine v_iconst dL_sound_250 ?_
                                                refine v_icmp_ne 272 dL_sound_251 (by decide) (by decide) (by decide) (fun h251 => ?_) (fun h251 => ?_)
                                                · skip
                                                  exact absurd h251 (by decide)
                                                · skip
                                                  refine v_iload dL_sound_254 rfl ?_
                                                  refine v_aload_n 0 dL_sound_256 rfl rfl ?_
                                                  refine v_iload dL_sound_257 rfl ?_
                                                  refine v_iload dL_sound_259 rfl ?_
                                                  refine v_iconst dL_sound_261 ?_
                                                  refine oVq3 3 (q_pipe hJ (by omega) (by omega) (by decide)) k0_X3_pipe ki_X3_pipe ml_L_73 (rfl : SH 0 = _) (by decide) (vRo_of hxR (by decide) (by decide)) dL_sound_262 (Nat.le_of_ble_eq_true rfl) (fun N hN => ?_)
                                                  have hJ := hN.1
                                                  have hF := xfr_tr hF hN.2
                                                  refine o_eqI (u := sAs v (sDrw v) true (24 * s + k)) ((ap_2 v hs hk).trans (sPi_2 o).1) ?_
                                                  refine v_icmp_gt 272 dL_sound_265 (by decide) (by omega) (by omega) (fun h265 => ?_) (fun h265 => ?_)
                                                  · skip
                                                    exact absurd h265 (by omega)
                                                  · skip
                                                    refine v_iconst dL_sound_268 ?_
                                                    refine v_goto 273 dL_sound_269 (by decide) ?_
                                                    refine v_ist6 dL_sound_273 rfl ?_
                                                    refine v_iload dL_sound_275 rfl ?_
                                                    refine v_if_eq 352 dL_sound_277 (by decide) (by decide) (fun h277 => ?_) (fun h277 => ?_)
                                                    · skip
                                                      exact absurd h277 (by decide)
                                                    · skip
                                                      refine v_iload dL_sound_280 rfl ?_
                                                      refine v_if_ne 321 dL_sound_282 (by decide) (by decide) (fun h282 => ?_) (fun h282 => ?_)
                                                      · skip
                                                        refine v_iload dL_sound_321 rfl ?_
                                                        refine v_iconst dL_sound_323 ?_
                                                        refine v_icmp_eq 348 dL_sound_324 (by decide) (by decide) (by decide) (fun h324 => ?_) (fun h324 => ?_)
                                                        · skip
                                                          exact absurd h324 (by decide)
                                                        · skip
                                                          refine v_aload_n 0 dL_sound_327 rfl rfl ?_
                                                          refine v_iload dL_sound_328 rfl ?_
                                                          refine v_iconst dL_sound_330 ?_
                                                          refine oVq2 3 (q_chest hJ (by omega) (by decide)) k0_X3_chest ki_X3_chest ml_L_78 (rfl : SH 0 = _) (by decide) (vRo_of hxR (by decide) (by decide)) dL_sound_331 (Nat.le_of_ble_eq_true rfl) (fun N hN => ?_)
                                                          have hJ := hN.1
                                                          have hF := xfr_tr hF hN.2
                                                          refine o_eqI (u := ((sAct v true (sMan v s) : Nat) : Int)) (ac_2 v hmn.1) ?_
                                                          refine v_iload dL_sound_334 rfl ?_
                                                          refine v_ishr dL_sound_336 ?_
                                                          refine v_iconst dL_sound_337 ?_
                                                          refine v_iand dL_sound_338 ?_
                                                          refine o_eqI (u := bP (bt ((sAct v true (sMan v s) : Nat) : Int) k = true)) (nu_bit (by omega) (by have := sAct_lt hS true (sMan v s); omega) (by omega)) ?_
                                                          refine v_if_eq 348 dL_sound_339 (by decide) (bP_R _) (fun h339 => ?_) (fun h339 => ?_)
                                                          · skip
                                                            refine v_iconst dL_sound_348 ?_
                                                            refine v_goto 353 dL_sound_349 (by decide) ?_
                                                            refine v_ist6 dL_sound_353 rfl ?_
                                                            refine v_iinc9 dL_sound_355 rfl ?_
                                                            refine v_goto 98 dL_sound_358 (by decide) ?_
                                                            exact ih2 (k + 1) _ _ _ (by omega) hJ hF
                                                          · skip
                                                            refine v_iload dL_sound_342 rfl ?_
                                                            refine v_iconst dL_sound_344 ?_
                                                            refine v_icmp_eq 352 dL_sound_345 (by decide) (by decide) (by decide) (fun h345 => ?_) (fun h345 => ?_)
                                                            · skip
                                                              exact absurd h345 (by decide)
                                                            · skip
                                                              refine v_iconst dL_sound_348 ?_
                                                              refine v_goto 353 dL_sound_349 (by decide) ?_
                                                              refine v_ist6 dL_sound_353 rfl ?_
                                                              refine v_iinc9 dL_sound_355 rfl ?_
                                                              refine v_goto 98 dL_sound_358 (by decide) ?_
                                                              exact ih2 (k + 1) _ _ _ (by omega) hJ hF
                                                      · skip
                                                        exact absurd h282 (by decide)
                                              · skip
                                                exact absurd h243 (by decide)
                                          · skip
                                            exact absurd h226 (by omega)
                                      · skip
                                        exact absurd h211 (by decide)
                                    · skip
                                      exact absurd h196 (by decide)
                              · skip
                                refine v_iload dL_sound_173 rfl ?_
                                refine v_goto 179 dL_sound_175 (by decide) ?_
                                refine v_iadd dL_sound_179 ?_
                                refine o_eqI (u := wF v (24 * s + (k + 1))) (by
                                    rw [wF_step v s hk]
                                    try omega) ?_
                                refine v_ist5 dL_sound_180 rfl ?_
                                refine v_iload dL_sound_182 rfl ?_
                                refine v_if_lt 272 dL_sound_184 (by decide) (by decide) (fun h184 => ?_) (fun h184 => ?_)
                                · skip
                                  exact absurd h184 (by decide)
                                · skip
                                  refine v_iload dL_sound_187 rfl ?_
                                  refine v_iconst dL_sound_189 ?_
                                  refine v_icmp_gt 272 dL_sound_190 (by decide) (by decide) (by decide) (fun h190 => ?_) (fun h190 => ?_)
                                  · skip
                                    exact absurd h190 (by decide)
                                  · skip
                                    refine v_iload dL_sound_193 rfl ?_
                                    refine v_iconst dL_sound_195 ?_
                                    refine v_icmp_ne 203 dL_sound_196 (by decide) (by decide) (by decide) (fun h196 => ?_) (fun h196 => ?_)
                                    · skip
                                      refine v_iconst dL_sound_203 ?_
                                      refine v_aload_n 0 dL_sound_204 rfl rfl ?_
                                      refine v_iload dL_sound_205 rfl ?_
                                      refine v_iconst dL_sound_207 ?_
                                      refine oVv2 3 (q_stop hJ (by omega) (by decide)) k0_X3_stop ki_X3_stop ml_L_67 (rfl : SH 0 = _) (by decide) (vRo_of hxR (by decide) (by decide)) dL_sound_208 (Nat.le_of_ble_eq_true rfl) ?_
                                      refine o_eqI (u := 1) ((as_3 v hs).trans d) ?_
                                      refine v_if_ne 218 dL_sound_211 (by decide) (by decide) (fun h211 => ?_) (fun h211 => ?_)
                                      · skip
                                        refine v_iconst dL_sound_218 ?_
                                        refine v_icmp_ne 272 dL_sound_219 (by decide) (by decide) (by decide) (fun h219 => ?_) (fun h219 => ?_)
                                        · skip
                                          exact absurd h219 (by decide)
                                        · skip
                                          refine v_iload dL_sound_222 rfl ?_
                                          refine v_ldc (-1000005) kc_L_77 (by decide) dL_sound_224 ?_
                                          refine v_icmp_ne 233 dL_sound_226 (by decide) (by omega) (by decide) (fun h226 => ?_) (fun h226 => ?_)
                                          · skip
                                            refine v_iconst dL_sound_233 ?_
                                            refine v_iload dL_sound_234 rfl ?_
                                            refine v_iconst dL_sound_236 ?_
                                            refine v_icmp_eq 246 dL_sound_237 (by decide) (by decide) (by decide) (fun h237 => ?_) (fun h237 => ?_)
                                            · skip
                                              exact absurd h237 (by decide)
                                            · skip
                                              refine v_iload dL_sound_240 rfl ?_
                                              refine v_iconst dL_sound_242 ?_
                                              refine v_icmp_ne 250 dL_sound_243 (by decide) (by decide) (by decide) (fun h243 => ?_) (fun h243 => ?_)
                                              · skip
                                                refine v_iconst dL_sound_250 ?_
                                                refine v_icmp_ne 272 dL_sound_251 (by decide) (by decide) (by decide) (fun h251 => ?_) (fun h251 => ?_)
                                                · skip
                                                  exact absurd h251 (by decide)
                                                · skip
                                                  refine v_iload dL_sound_254 rfl ?_
                                                  refine v_aload_n 0 dL_sound_256 rfl rfl ?_
                                                  refine v_iload dL_sound_257 rfl ?_
                                                  refine v_iload dL_sound_259 rfl ?_
                                                  refine v_iconst dL_sound_261 ?_
                                                  refine oVq3 3 (q_pipe hJ (by omega) (by omega) (by decide)) k0_X3_pipe ki_X3_pipe ml_L_73 (rfl : SH 0 = _) (by decide) (vRo_of hxR (by decide) (by decide)) dL_sound_262 (Nat.le_of_ble_eq_true rfl) (fun N hN => ?_)
                                                  have hJ := hN.1
                                                  have hF := xfr_tr hF hN.2
                                                  refine o_eqI (u := sAs v (sDrw v) true (24 * s + k)) ((ap_2 v hs hk).trans (sPi_2 o).1) ?_
                                                  refine v_icmp_gt 272 dL_sound_265 (by decide) (by omega) (by omega) (fun h265 => ?_) (fun h265 => ?_)
                                                  · skip
                                                    exact absurd h265 (by omega)
                                                  · skip
                                                    refine v_iconst dL_sound_268 ?_
                                                    refine v_goto 273 dL_sound_269 (by decide) ?_
                                                    refine v_ist6 dL_sound_273 rfl ?_
                                                    refine v_iload dL_sound_275 rfl ?_
                                                    refine v_if_eq 352 dL_sound_277 (by decide) (by decide) (fun h277 => ?_) (fun h277 => ?_)
                                                    · skip
                                                      exact absurd h277 (by decide)
                                                    · skip
                                                      refine v_iload dL_sound_280 rfl ?_
                                                      refine v_if_ne 321 dL_sound_282 (by decide) (by decide) (fun h282 => ?_) (fun h282 => ?_)
                                                      · skip
                                                        refine v_iload dL_sound_321 rfl ?_
                                                        refine v_iconst dL_sound_323 ?_
                                                        refine v_icmp_eq 348 dL_sound_324 (by decide) (by decide) (by decide) (fun h324 => ?_) (fun h324 => ?_)
                                                        · skip
                                                          exact absurd h324 (by decide)
                                                        · skip
                                                          refine v_aload_n 0 dL_sound_327 rfl rfl ?_
                                                          refine v_iload dL_sound_328 rfl ?_
                                                          refine v_iconst dL_sound_330 ?_
                                                          refine oVq2 3 (q_chest hJ (by omega) (by decide)) k0_X3_chest ki_X3_chest ml_L_78 (rfl : SH 0 = _) (by decide) (vRo_of hxR (by decide) (by decide)) dL_sound_331 (Nat.le_of_ble_eq_true rfl) (fun N hN => ?_)
                                                          have hJ := hN.1
                                                          have hF := xfr_tr hF hN.2
                                                          refine o_eqI (u := ((sAct v true (sMan v s) : Nat) : Int)) (ac_2 v hmn.1) ?_
                                                          refine v_iload dL_sound_334 rfl ?_
                                                          refine v_ishr dL_sound_336 ?_
                                                          refine v_iconst dL_sound_337 ?_
                                                          refine v_iand dL_sound_338 ?_
                                                          refine o_eqI (u := bP (bt ((sAct v true (sMan v s) : Nat) : Int) k = true)) (nu_bit (by omega) (by have := sAct_lt hS true (sMan v s); omega) (by omega)) ?_
                                                          refine v_if_eq 348 dL_sound_339 (by decide) (bP_R _) (fun h339 => ?_) (fun h339 => ?_)
                                                          · skip
                                                            refine v_iconst dL_sound_348 ?_
                                                            refine v_goto 353 dL_sound_349 (by decide) ?_
                                                            refine v_ist6 dL_sound_353 rfl ?_
                                                            refine v_iinc9 dL_sound_355 rfl ?_
                                                            refine v_goto 98 dL_sound_358 (by decide) ?_
                                                            exact ih2 (k + 1) _ _ _ (by omega) hJ hF
                                                          · skip
                                                            refine v_iload dL_sound_342 rfl ?_
                                                            refine v_iconst dL_sound_344 ?_
                                                            refine v_icmp_eq 352 dL_sound_345 (by decide) (by decide) (by decide) (fun h345 => ?_) (fun h345 => ?_)
                                                            · skip
                                                              exact absurd h345 (by decide)
                                                            · skip
                                                              refine v_iconst dL_sound_348 ?_
                                                              refine v_goto 353 dL_sound_349 (by decide) ?_
                                                              refine v_ist6 dL_sound_353 rfl ?_
                                                              refine v_iinc9 dL_sound_355 rfl ?_
                                                              refine v_goto 98 dL_sound_358 (by decide) ?_
                                                              exact ih2 (k + 1) _ _ _ (by omega) hJ hF
                                                      · skip
                                                        exact absurd h282 (by decide)
                                              · skip
                                                exact absurd h243 (by decide)
                                          · skip
                                            exact absurd h226 (by omega)
                                      · skip
                                        exact absurd h211 (by decide)
                                    · skip
                                      exact absurd h196 (by decide)
                            · skip
                              exact absurd h155 (by decide)
                          · skip
                            exact absurd h141 (by decide)
                      · skip
                        rw [e, (sPi_2 o).2]
                        have hg := sGt_b hS (show 24 * s + k < 192 by omega)
                        have hp := sPr_le hS hmn.1
                        have hq := (iv_st hS hs).2.2.1
                        refine v_iload_n 3 dL_sound_131 rfl rfl ?_
                        refine v_iload dL_sound_132 rfl ?_
                        refine v_iconst dL_sound_134 ?_
                        refine v_icmp_eq 144 dL_sound_135 (by decide) (by decide) (by decide) (fun h135 => ?_) (fun h135 => ?_)
                        · skip
                          exact absurd h135 (by decide)
                        · skip
                          refine v_iload dL_sound_138 rfl ?_
                          refine v_iconst dL_sound_140 ?_
                          refine v_icmp_ne 148 dL_sound_141 (by decide) (by decide) (by decide) (fun h141 => ?_) (fun h141 => ?_)
                          · skip
                            refine v_iconst dL_sound_148 ?_
                            refine v_iadd dL_sound_149 ?_
                            refine o_eqI (u := ((wO v (24 * s + (k + 1)) : Nat) : Int)) (by
                                rw [wO_step v s hk, if_pos o]
                                omega) ?_
                            refine v_ist3 dL_sound_150 rfl ?_
                            refine v_iload dL_sound_151 rfl ?_
                            refine v_iload dL_sound_153 rfl ?_
                            refine v_if_ne 162 dL_sound_155 (by decide) (by decide) (fun h155 => ?_) (fun h155 => ?_)
                            · skip
                              exact absurd h155 (by decide)
                            · skip
                              refine v_iconst dL_sound_158 ?_
                              refine v_goto 163 dL_sound_159 (by decide) ?_
                              refine v_iadd dL_sound_163 ?_
                              refine o_eqI (u := ((sSp v (sDrw v) true (24 * s + (k + 1)) : Nat) : Int)) (by
                                  rw [sSp_step v s hk, e, if_pos rfl]
                                  omega) ?_
                              refine v_ist4 dL_sound_164 rfl ?_
                              refine v_iload dL_sound_166 rfl ?_
                              refine v_iload dL_sound_168 rfl ?_
                              refine v_if_le 178 dL_sound_170 (by decide) (by omega) (fun h170 => ?_) (fun h170 => ?_)
                              · skip
                                exact absurd h170 (by omega)
                              · skip
                                refine v_iload dL_sound_173 rfl ?_
                                refine v_goto 179 dL_sound_175 (by decide) ?_
                                refine v_iadd dL_sound_179 ?_
                                refine o_eqI (u := wF v (24 * s + (k + 1))) (by
                                    rw [wF_step v s hk]
                                    try omega) ?_
                                refine v_ist5 dL_sound_180 rfl ?_
                                refine v_iload dL_sound_182 rfl ?_
                                refine v_if_lt 272 dL_sound_184 (by decide) (by decide) (fun h184 => ?_) (fun h184 => ?_)
                                · skip
                                  exact absurd h184 (by decide)
                                · skip
                                  refine v_iload dL_sound_187 rfl ?_
                                  refine v_iconst dL_sound_189 ?_
                                  refine v_icmp_gt 272 dL_sound_190 (by decide) (by decide) (by decide) (fun h190 => ?_) (fun h190 => ?_)
                                  · skip
                                    exact absurd h190 (by decide)
                                  · skip
                                    refine v_iload dL_sound_193 rfl ?_
                                    refine v_iconst dL_sound_195 ?_
                                    refine v_icmp_ne 203 dL_sound_196 (by decide) (by decide) (by decide) (fun h196 => ?_) (fun h196 => ?_)
                                    · skip
                                      refine v_iconst dL_sound_203 ?_
                                      refine v_aload_n 0 dL_sound_204 rfl rfl ?_
                                      refine v_iload dL_sound_205 rfl ?_
                                      refine v_iconst dL_sound_207 ?_
                                      refine oVv2 3 (q_stop hJ (by omega) (by decide)) k0_X3_stop ki_X3_stop ml_L_67 (rfl : SH 0 = _) (by decide) (vRo_of hxR (by decide) (by decide)) dL_sound_208 (Nat.le_of_ble_eq_true rfl) ?_
                                      refine o_eqI (u := 1) ((as_3 v hs).trans d) ?_
                                      refine v_if_ne 218 dL_sound_211 (by decide) (by decide) (fun h211 => ?_) (fun h211 => ?_)
                                      · skip
                                        refine v_iconst dL_sound_218 ?_
                                        refine v_icmp_ne 272 dL_sound_219 (by decide) (by decide) (by decide) (fun h219 => ?_) (fun h219 => ?_)
                                        · skip
                                          exact absurd h219 (by decide)
                                        · skip
                                          refine v_iload dL_sound_222 rfl ?_
                                          refine v_ldc (-1000005) kc_L_77 (by decide) dL_sound_224 ?_
                                          refine v_icmp_ne 233 dL_sound_226 (by decide) (by omega) (by decide) (fun h226 => ?_) (fun h226 => ?_)
                                          · skip
                                            refine v_iconst dL_sound_233 ?_
                                            refine v_iload dL_sound_234 rfl ?_
                                            refine v_iconst dL_sound_236 ?_
                                            refine v_icmp_eq 246 dL_sound_237 (by decide) (by decide) (by decide) (fun h237 => ?_) (fun h237 => ?_)
                                            · skip
                                              exact absurd h237 (by decide)
                                            · skip
                                              refine v_iload dL_sound_240 rfl ?_
                                              refine v_iconst dL_sound_242 ?_
                                              refine v_icmp_ne 250 dL_sound_243 (by decide) (by decide) (by decide) (fun h243 => ?_) (fun h243 => ?_)
                                              · skip
                                                refine v_iconst dL_sound_250 ?_
                                                refine v_icmp_ne 272 dL_sound_251 (by decide) (by decide) (by decide) (fun h251 => ?_) (fun h251 => ?_)
                                                · skip
                                                  exact absurd h251 (by decide)
                                                · skip
                                                  refine v_iload dL_sound_254 rfl ?_
                                                  refine v_aload_n 0 dL_sound_256 rfl rfl ?_
                                                  refine v_iload dL_sound_257 rfl ?_
                                                  refine v_iload dL_sound_259 rfl ?_
                                                  refine v_iconst dL_sound_261 ?_
                                                  refine oVq3 3 (q_pipe hJ (by omega) (by omega) (by decide)) k0_X3_pipe ki_X3_pipe ml_L_73 (rfl : SH 0 = _) (by decide) (vRo_of hxR (by decide) (by decide)) dL_sound_262 (Nat.le_of_ble_eq_true rfl) (fun N hN => ?_)
                                                  have hJ := hN.1
                                                  have hF := xfr_tr hF hN.2
                                                  refine o_eqI (u := sAs v (sDrw v) true (24 * s + k)) ((ap_2 v hs hk).trans (sPi_2 o).1) ?_
                                                  refine v_icmp_gt 272 dL_sound_265 (by decide) (by omega) (by omega) (fun h265 => ?_) (fun h265 => ?_)
                                                  · skip
                                                    exact absurd h265 (by omega)
                                                  · skip
                                                    refine v_iconst dL_sound_268 ?_
                                                    refine v_goto 273 dL_sound_269 (by decide) ?_
                                                    refine v_ist6 dL_sound_273 rfl ?_
                                                    refine v_iload dL_sound_275 rfl ?_
                                                    refine v_if_eq 352 dL_sound_277 (by decide) (by decide) (fun h277 => ?_) (fun h277 => ?_)
                                                    · skip
                                                      exact absurd h277 (by decide)
                                                    · skip
                                                      refine v_iload dL_sound_280 rfl ?_
                                                      refine v_if_ne 321 dL_sound_282 (by decide) (by decide) (fun h282 => ?_) (fun h282 => ?_)
                                                      · skip
                                                        exact absurd h282 (by decide)
                                                      · skip
                                                        refine v_iload dL_sound_285 rfl ?_
                                                        refine v_if_le 352 dL_sound_287 (by decide) (by omega) (fun h287 => ?_) (fun h287 => ?_)
                                                        · skip
                                                          exact absurd h287 (by omega)
                                                        · skip
                                                          refine v_iload dL_sound_290 rfl ?_
                                                          refine v_aload_n 0 dL_sound_292 rfl rfl ?_
                                                          refine v_iload dL_sound_293 rfl ?_
                                                          refine v_iload dL_sound_295 rfl ?_
                                                          refine v_iconst dL_sound_297 ?_
                                                          refine oVq3 3 (q_pipe hJ (by omega) (by omega) (by decide)) k0_X3_pipe ki_X3_pipe ml_L_73 (rfl : SH 0 = _) (by decide) (vRo_of hxR (by decide) (by decide)) dL_sound_298 (Nat.le_of_ble_eq_true rfl) (fun N hN => ?_)
                                                          have hJ := hN.1
                                                          have hF := xfr_tr hF hN.2
                                                          refine o_eqI (u := sAs v (sDrw v) true (24 * s + k)) ((ap_2 v hs hk).trans (sPi_2 o).1) ?_
                                                          refine v_icmp_neS dL_sound_301 352 (by decide) g1 ?_
                                                          refine v_aload_n 0 dL_sound_304 rfl rfl ?_
                                                          refine v_iload dL_sound_305 rfl ?_
                                                          refine v_iconst dL_sound_307 ?_
                                                          refine oVq2 3 (q_chest hJ (by omega) (by decide)) k0_X3_chest ki_X3_chest ml_L_78 (rfl : SH 0 = _) (by decide) (vRo_of hxR (by decide) (by decide)) dL_sound_308 (Nat.le_of_ble_eq_true rfl) (fun N hN => ?_)
                                                          have hJ := hN.1
                                                          have hF := xfr_tr hF hN.2
                                                          refine o_eqI (u := sPr v (sDrw v) true (sMan v s)) (ac_0 v hmn.1) ?_
                                                          refine v_aload_n 0 dL_sound_311 rfl rfl ?_
                                                          refine v_iload dL_sound_312 rfl ?_
                                                          refine v_iconst dL_sound_314 ?_
                                                          refine oVv2 3 (q_stop hJ (by omega) (by decide)) k0_X3_stop ki_X3_stop ml_L_67 (rfl : SH 0 = _) (by decide) (vRo_of hxR (by decide) (by decide)) dL_sound_315 (Nat.le_of_ble_eq_true rfl) ?_
                                                          refine o_eqI (u := v (24 + 5 * s + 2)) (as_2 v hs) ?_
                                                          refine v_icmp_lt 352 dL_sound_318 (by decide) (by omega) (by omega) (fun h318 => ?_) (fun h318 => ?_)
                                                          · skip
                                                            exact absurd h318 (by omega)
                                                          · skip
                                                            refine v_iload dL_sound_321 rfl ?_
                                                            refine v_iconst dL_sound_323 ?_
                                                            refine v_icmp_eq 348 dL_sound_324 (by decide) (by decide) (by decide) (fun h324 => ?_) (fun h324 => ?_)
                                                            · skip
                                                              exact absurd h324 (by decide)
                                                            · skip
                                                              refine v_aload_n 0 dL_sound_327 rfl rfl ?_
                                                              refine v_iload dL_sound_328 rfl ?_
                                                              refine v_iconst dL_sound_330 ?_
                                                              refine oVq2 3 (q_chest hJ (by omega) (by decide)) k0_X3_chest ki_X3_chest ml_L_78 (rfl : SH 0 = _) (by decide) (vRo_of hxR (by decide) (by decide)) dL_sound_331 (Nat.le_of_ble_eq_true rfl) (fun N hN => ?_)
                                                              have hJ := hN.1
                                                              have hF := xfr_tr hF hN.2
                                                              refine o_eqI (u := ((sAct v true (sMan v s) : Nat) : Int)) (ac_2 v hmn.1) ?_
                                                              refine v_iload dL_sound_334 rfl ?_
                                                              refine v_ishr dL_sound_336 ?_
                                                              refine v_iconst dL_sound_337 ?_
                                                              refine v_iand dL_sound_338 ?_
                                                              refine o_eqI (u := bP (bt ((sAct v true (sMan v s) : Nat) : Int) k = true)) (nu_bit (by omega) (by have := sAct_lt hS true (sMan v s); omega) (by omega)) ?_
                                                              refine v_if_eq 348 dL_sound_339 (by decide) (bP_R _) (fun h339 => ?_) (fun h339 => ?_)
                                                              · skip
                                                                refine v_iconst dL_sound_348 ?_
                                                                refine v_goto 353 dL_sound_349 (by decide) ?_
                                                                refine v_ist6 dL_sound_353 rfl ?_
                                                                refine v_iinc9 dL_sound_355 rfl ?_
                                                                refine v_goto 98 dL_sound_358 (by decide) ?_
                                                                exact ih2 (k + 1) _ _ _ (by omega) hJ hF
                                                              · skip
                                                                refine v_iload dL_sound_342 rfl ?_
                                                                refine v_iconst dL_sound_344 ?_
                                                                refine v_icmp_eq 352 dL_sound_345 (by decide) (by decide) (by decide) (fun h345 => ?_) (fun h345 => ?_)
                                                                · skip
                                                                  exact absurd h345 (by decide)
                                                                · skip
                                                                  refine v_iconst dL_sound_348 ?_
                                                                  refine v_goto 353 dL_sound_349 (by decide) ?_
                                                                  refine v_ist6 dL_sound_353 rfl ?_
                                                                  refine v_iinc9 dL_sound_355 rfl ?_
                                                                  refine v_goto 98 dL_sound_358 (by decide) ?_
                                                                  exact ih2 (k + 1) _ _ _ (by omega) hJ hF
                                              · skip
                                                exact absurd h243 (by decide)
                                          · skip
                                            exact absurd h226 (by omega)
                                      · skip
                                        exact absurd h211 (by decide)
                                    · skip
                                      exact absurd h196 (by decide)
                          · skip
                            exact absurd h141 (by decide)
              exact lp98 24 0 _ _ _ rfl hJ hF
      have e0 : wF v (24 * 0) = 0 := by
        show v 0 - v 0 = 0
        omega
      have hz := lp64 8 0 _ none none none none rfl hJ hF
      rw [e0] at hz
      exact hz
