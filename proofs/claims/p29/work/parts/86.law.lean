/-! ===== the law's cell, and its own walk (by program) ===== -/
theorem cell_post (a : Int) (M : Mem) : (∃ z : Nat, z ≤ 2147483647 ∧ some (aI (vand a 2147483647)) = some (aI (z : Int))) ∧ M = M := by
  have h := vand_top a
  exact ⟨⟨(vand a 2147483647).toNat, by omega, by rw [Int.toNat_of_nonneg h.1]⟩, rfl⟩
theorem vand_nat (a : Nat) (ha : a ≤ 2147483647) (b : Int) : ∃ c : Nat, vand (a : Int) b = (c : Int) ∧ c ≤ a := by
  have h := vand_dn (a := (a : Int)) b (by omega) (by omega)
  exact ⟨(vand (a : Int) b).toNat, by omega, by omega⟩
theorem LW.same {v w : Sg} {M : Mem} (h : LW v M) (e : sSame v w) : LW w M := by
  obtain ⟨h1, h2, h3, h4⟩ := h
  have e0 : ∀ i, sK i → w i = v i := e
  refine ⟨fun s hs => ?_, fun k hk => ?_, fun s hs => ?_, ?_⟩
  · rw [e0 (24 + 5 * s) (by unfold sK; omega), e0 (24 + 5 * s + 1) (by unfold sK; omega), e0 (24 + 5 * s + 3) (by unfold sK; omega)]; exact h1 s hs
  · rw [e0 _ (by unfold sK; omega)]; exact h2 k hk
  · rw [e0 _ (by unfold sK; omega)]; exact h3 s hs
  · rw [e0 10 (by unfold sK; omega), e0 11 (by unfold sK; omega), e0 12 (by unfold sK; omega)]; exact h4
/-- where a turn of the law begins -/
def lE (n : Nat) (K : Mem) : Prop := ∃ (v : Sg) (r : Nat) (h : Nat → Nat) (ro : Nat → Sg) (ke : Nat → Int) (kr : Nat → Sg) (t : Nat) (L : Nat → Int), JX v r h ro ke kr t L K ∧ LW v K ∧ wI n v
set_option maxRecDepth 100000 in
set_option maxHeartbeats 400000 in
theorem c_L_cell {l : Launch} {G : vGG} {M : Mem} {Ln : Nat} {zs : Nat → Int32} (hLn : Ln ≤ 260) {k : Nat} {z : Int} (hz : z = (k : Int)) (hk : k < 100) : CtX l yL_cell cL_cell 2 (some .int) (rmo 0 0) G [aR (some 1003), aI z] SH 114 M Ln zs (vP (fun r M' => (∃ z : Nat, z ≤ 2147483647 ∧ r = some (aI (z : Int))) ∧ M' = M)) := by
  refine CtX.ofV hLn (plainFor_of_name (by decide)) rfl rfl ?_
  intro x hxl hxR hlk hrt hX Q hQ
  subst hz
  show vO x Q G cL_cell RL 0 [some (aR (some 1003)), some (aI (k : Int))] [] M
  refine v_iload_n 1 dL_cell_0 rfl rfl ?_
  refine v_aload_n 0 dL_cell_1 rfl rfl ?_
  refine v_slen hX dL_cell_2 ?_
  refine v_icmp_ge 12 dL_cell_3 (by decide) (by omega) (by have := hX.2.2.2; omega) (fun h3 => ?_) (fun h3 => ?_)
  · skip
    refine v_ldc (15571571) kc_L_7 (by decide) dL_cell_12 ?_
    refine v_iload_n 1 dL_cell_14 rfl rfl ?_
    refine v_imul dL_cell_15 ?_
    refine v_sipush dL_cell_16 (by decide) ?_
    refine v_iadd dL_cell_19 ?_
    refine v_ldc (2147483647) kc_L_8 (by decide) dL_cell_20 ?_
    refine v_iand dL_cell_22 ?_
    refine o_iret hQ hlk hrt dL_cell_23 ?_
    exact cell_post _ _
  · skip
    refine v_aload_n 0 dL_cell_6 rfl rfl ?_
    refine v_iload_n 1 dL_cell_7 rfl rfl ?_
    refine v_sld (j := k) hX (by omega) (by omega) dL_cell_8 ?_
    refine v_goto 20 dL_cell_9 (by decide) ?_
    refine v_ldc (2147483647) kc_L_8 (by decide) dL_cell_20 ?_
    refine v_iand dL_cell_22 ?_
    refine o_iret hQ hlk hrt dL_cell_23 ?_
    exact cell_post _ _
theorem lay_40 (u : Sg) : aStop (sLay u (Int.toNat 3) 0 40 0) 3 1 = 40 := by
  refine (a_stop _ (s := 3) (by decide) 1 (by decide)).trans ?_
  unfold sLay
  rw [if_neg (by decide), if_neg (by decide), if_pos (by decide)]
abbrev vL (x : vXX) (Q : State → Prop) (G : vGG) (pc : Nat) (ls : List (Option AV)) (st : List AV) (M : Mem) : Prop := V x Q G cL_law RL SH 114 114 3014 pc ls st M
set_option maxRecDepth 100000 in
set_option maxHeartbeats 4000000 in
theorem law_run {x : vXX} {Q : State → Prop} {G : vGG} {Ln : Nat} {zs : Nat → Int32} (C : lwC x G Ln zs) (hE : ∀ (ls : List (Option AV)) (N : Mem), ls.length = 10 → vL x Q G 441 ls [aI 1] N) {M : Mem} {h : Nat → Nat} {ro : Nat → Sg} {ke : Nat → Int} {kr : Nat → Sg} {L : Nat → Int} (hJ : JX sg0 0 h ro ke kr 0 L M) (hk0 : ke 0 = 0) (hW : LW sg0 M) : vL x Q G 37 [some (aR (some 1003)), some (aR (some 0)), some (aR (some 110)), some (aR (some 111)), some (aR (some 112)), some (aR (some 113)), none, none, none, none] [] M := by
  refine v_aload_n 1 dL_law_37 rfl rfl ?_
  refine v_iconst dL_law_38 ?_
  refine lVv1 3 (n_restore hJ (by decide) (fun g => g.2 hk0)) k0_X3_restore ki_X3_restore ml_L_117 (rfl : SH 0 = _) (by decide) (lRm C (by decide) (by decide)) dL_law_39 (Nat.le_of_ble_eq_true rfl) ?_
  refine v_ldc (-1000003) kc_L_125 (by decide) dL_law_42 ?_
  refine v_icmp_neS dL_law_44 76 (by decide) (if_pos (by decide)) ?_
  refine v_aload_n 1 dL_law_47 rfl rfl ?_
  refine lVv0 3 (n_undo hJ) k0_X3_undo ki_X3_undo ml_L_98 (rfl : SH 0 = _) (by decide) (lRm C (by decide) (by decide)) dL_law_48 (Nat.le_of_ble_eq_true rfl) ?_
  refine v_ldc (-1000003) kc_L_125 (by decide) dL_law_51 ?_
  refine v_icmp_neS dL_law_53 76 (by decide) rfl ?_
  refine v_aload_n 1 dL_law_56 rfl rfl ?_
  refine lVq0 3 (q_play0 hJ) k0_X3_play ki_X3_play ml_L_126 (rfl : SH 0 = _) (by decide) (lRm C (by decide) (by decide)) dL_law_57 (Nat.le_of_ble_eq_true rfl) (fun N hN => ?_)
  have hJ := hN.1
  have hW := hW.x hN.2
  refine v_if_ne 76 dL_law_60 (by decide) (by decide) (fun h60 => ?_) (fun h60 => ?_)
  · skip
    exact absurd h60 (by decide)
  · skip
    refine v_aload_n 1 dL_law_63 rfl rfl ?_
    refine v_bipush dL_law_64 (by decide) ?_
    refine lVq1 3 (q_tell hJ (by decide)) k0_X3_tell ki_X3_tell ml_L_64 (rfl : SH 0 = _) (by decide) (lRm C (by decide) (by decide)) dL_law_66 (Nat.le_of_ble_eq_true rfl) (fun N hN => ?_)
    have hJ := hN.1
    have hW := hW.x hN.2
    refine l_eqI (u := 0) ((at_7 _).trans (congrArg (fun n : Nat => (n : Int)) sSp_sg0)) ?_
    refine v_if_ne 76 dL_law_69 (by decide) (by decide) (fun h69 => ?_) (fun h69 => ?_)
    · skip
      exact absurd h69 (by decide)
    · skip
      refine v_iconst dL_law_72 ?_
      refine v_goto 77 dL_law_73 (by decide) ?_
      refine v_ist6 dL_law_77 rfl ?_
      refine v_iconst dL_law_79 ?_
      refine v_ist7 dL_law_80 rfl ?_
      have lp82 : ∀ (dd turn : Nat) (K : Mem) (c8 c9 : Option AV), turn + dd = 7 → lE (60 * turn) K → vL x Q G 82 [some (aR (some 1003)), some (aR (some 0)), some (aR (some 110)), some (aR (some 111)), some (aR (some 112)), some (aR (some 113)), some (aI 1), some (aI (turn : Int)), c8, c9] [] K := by
        intro dd
        induction dd with
        | zero =>
          intro turn K c8 c9 hd hE2
          obtain rfl : turn = 7 := by omega
          obtain ⟨v, r, h, ro, ke, kr, t, L, hJ, hW, hI⟩ := hE2
          refine v_iload dL_law_82 rfl ?_
          refine v_bipush dL_law_84 (by decide) ?_
          refine v_icmp_ge 312 dL_law_86 (by decide) (by omega) (by decide) (fun h86 => ?_) (fun h86 => ?_)
          · skip
            refine v_aload_n 1 dL_law_312 rfl rfl ?_
            refine lVq0 3 (q_checksum hJ) k0_X3_checksum ki_X3_checksum ml_L_85 (rfl : SH 0 = _) (by decide) (lRm C (by decide) (by decide)) dL_law_313 (Nat.le_of_ble_eq_true rfl) (fun N hN => ?_)
            have hJ := hN.1
            have hW := hW.x hN.2
            refine v_lst7 dL_law_316 rfl ?_
            refine v_aload_n 1 dL_law_318 rfl rfl ?_
            refine v_iconst dL_law_319 ?_
            refine lVq1 3 (q_tell hJ (by decide)) k0_X3_tell ki_X3_tell ml_L_64 (rfl : SH 0 = _) (by decide) (lRm C (by decide) (by decide)) dL_law_320 (Nat.le_of_ble_eq_true rfl) (fun N hN => ?_)
            have hJ := hN.1
            have hW := hW.x hN.2
            refine l_eqI (u := v 13) (at_2 v) ?_
            refine v_ist9 dL_law_323 rfl ?_
            refine v_iload dL_law_325 rfl ?_
            refine v_if_eq 390 dL_law_327 (by decide) (by decide) (fun h327 => ?_) (fun h327 => ?_)
            · skip
              exact absurd h327 (by decide)
            · skip
              refine v_aload_n 1 dL_law_330 rfl rfl ?_
              refine v_iconst dL_law_331 ?_
              refine lVq1 3 (q_save hJ (by decide) (by decide)) k0_X3_save ki_X3_save ml_L_92 (rfl : SH 0 = _) (by decide) (lRm C (by decide) (by decide)) dL_law_332 (Nat.le_of_ble_eq_true rfl) (fun N hN => ?_)
              obtain ⟨ke2, kr2, hk2, hk3, hJ⟩ : ∃ (ke2 : Nat → Int) (kr2 : Nat → Sg), ke2 0 = 1 ∧ kr2 0 = v ∧ JX v r h ro ke2 kr2 t L N := ⟨_, _, rfl, rfl, hN.1⟩
              have hW := hW.x hN.2
              refine v_iload dL_law_335 rfl ?_
              refine v_icmp_neS dL_law_337 390 (by decide) rfl ?_
              refine v_aload_n 1 dL_law_340 rfl rfl ?_
              refine v_sipush dL_law_341 (by decide) ?_
              refine lVq1 3 (q_tick hJ (by decide) (by decide)) k0_X3_tick ki_X3_tick ml_L_95 (rfl : SH 0 = _) (by decide) (lRm C (by decide) (by decide)) dL_law_344 (Nat.le_of_ble_eq_true rfl) (fun N hN => ?_)
              have hv0 := sTks_v0 hI.1 (Int.toNat 200)
              have hW := (hW.x hN.2).same (sTks_same hI.1 (Int.toNat 200))
              obtain ⟨u, hu, hJ⟩ : ∃ u : Sg, u = sTks v (Int.toNat 200) ∧ JX u (min r 4 + 1) (xh r h) (rr r v ro) ke2 kr2 t L N := ⟨_, rfl, hN.1⟩
              rw [← hu] at hW
              refine v_if_lt 390 dL_law_347 (by decide) (by omega) (fun h347 => ?_) (fun h347 => ?_)
              · skip
                exact absurd h347 (by omega)
              · skip
                refine v_aload_n 1 dL_law_350 rfl rfl ?_
                refine v_iconst dL_law_351 ?_
                refine v_iconst dL_law_352 ?_
                refine v_bipush dL_law_353 (by decide) ?_
                refine v_iconst dL_law_355 ?_
                refine lVq4 3 (q_layOut hJ (by decide) (by decide) (by decide) (by decide) ⟨by decide, by decide, by decide, by decide⟩) k0_X3_layOut ki_X3_layOut ml_L_33 (rfl : SH 0 = _) (by decide) (lRm C (by decide) (by decide)) dL_law_356 (Nat.le_of_ble_eq_true rfl) (fun N hN => ?_)
                have hJ := hN.1
                have hW := hW.x hN.2
                refine v_aload_n 2 dL_law_359 rfl rfl ?_
                refine v_bipush dL_law_360 (by decide) ?_
                refine l_iald (j := 16) (u := u (24 + 5 * 3 + 1)) (rfl : SH 110 = _) (by omega) (by omega) (hW.1 3 (by decide)).2.1 dL_law_362 ?_
                refine v_icmp_neS dL_law_363 390 (by decide) rfl ?_
                refine v_aload_n 1 dL_law_366 rfl rfl ?_
                refine v_iconst dL_law_367 ?_
                refine v_iconst dL_law_368 ?_
                refine lVq2 3 (q_couple hJ (.inr rfl) (.inr rfl) trivial) k0_X3_couple ki_X3_couple ml_L_48 (rfl : SH 0 = _) (by decide) (lRm C (by decide) (by decide)) dL_law_369 (Nat.le_of_ble_eq_true rfl) (fun N hN => ?_)
                have hW := hW.x hN.2
                obtain ⟨w, hw, p, h2, ro2, hp4, hro, hJ⟩ : ∃ w : Sg, w = sLay u (Int.toNat 3) 0 40 0 ∧ ∃ (p : Nat) (h2 : Nat → Nat) (ro2 : Nat → Sg), p ≤ 4 ∧ ro2 p = w ∧ JX (sCou w 1 1) (p + 1) h2 ro2 ke2 kr2 t L N := ⟨_, rfl, _, _, _, by omega, if_pos rfl, hN.1⟩
                refine v_aload dL_law_372 rfl ?_
                refine v_iconst dL_law_374 ?_
                refine l_iald (j := 1) (u := u 10) (rfl : SH 113 = _) (by omega) (by omega) hW.2.2.2.1 dL_law_375 ?_
                refine v_icmp_neS dL_law_376 390 (by decide) (sLay_o (by decide)) ?_
                refine v_aload_n 1 dL_law_379 rfl rfl ?_
                refine lVq0 3 (q_undo hJ) k0_X3_undo ki_X3_undo ml_L_98 (rfl : SH 0 = _) (by decide) (lRm C (by decide) (by decide)) dL_law_380 (Nat.le_of_ble_eq_true rfl) (fun N hN => ?_)
                have hJ := hN.1
                rw [hro] at hJ
                refine v_if_lt 390 dL_law_383 (by decide) (by omega) (fun h383 => ?_) (fun h383 => ?_)
                · skip
                  exact absurd h383 (by omega)
                · skip
                  refine v_iconst dL_law_386 ?_
                  refine v_goto 391 dL_law_387 (by decide) ?_
                  refine v_ist6 dL_law_391 rfl ?_
                  refine v_iload dL_law_393 rfl ?_
                  refine v_if_eq 440 dL_law_395 (by decide) (by decide) (fun h395 => ?_) (fun h395 => ?_)
                  · skip
                    exact absurd h395 (by decide)
                  · skip
                    refine v_aload_n 1 dL_law_398 rfl rfl ?_
                    refine v_iconst dL_law_399 ?_
                    refine lVq1 3 (q_restore hJ (by decide) (by decide) (show ¬ ke2 0 = 0 by rw [hk2]; decide)) k0_X3_restore ki_X3_restore ml_L_117 (rfl : SH 0 = _) (by decide) (lRm C (by decide) (by decide)) dL_law_400 (Nat.le_of_ble_eq_true rfl) (fun N hN => ?_)
                    obtain ⟨p2, h3, ro3, hp5, hro3, hJ⟩ : ∃ (p : Nat) (h2 : Nat → Nat) (ro2 : Nat → Sg), p ≤ 4 ∧ ro2 p = w ∧ JX (kr2 0) (p + 1) h2 ro2 ke2 kr2 t L N := ⟨_, _, _, by omega, if_pos rfl, hN.1⟩
                    rw [hk3] at hJ
                    refine l_eqI (u := v 13) (show kr2 0 13 = v 13 by rw [hk3]) ?_
                    refine v_iload dL_law_403 rfl ?_
                    refine v_icmp_neS dL_law_405 440 (by decide) rfl ?_
                    refine v_aload_n 1 dL_law_408 rfl rfl ?_
                    refine lVq0 3 (q_checksum hJ) k0_X3_checksum ki_X3_checksum ml_L_85 (rfl : SH 0 = _) (by decide) (lRm C (by decide) (by decide)) dL_law_409 (Nat.le_of_ble_eq_true rfl) (fun N hN => ?_)
                    have hJ := hN.1
                    refine v_lload dL_law_412 rfl ?_
                    refine v_lcmpS dL_law_414 rfl ?_
                    refine v_if_ne 440 dL_law_415 (by decide) (by decide) (fun h415 => ?_) (fun h415 => ?_)
                    · skip
                      exact absurd h415 (by decide)
                    · skip
                      refine v_aload_n 1 dL_law_418 rfl rfl ?_
                      refine lVq0 3 (q_undo hJ) k0_X3_undo ki_X3_undo ml_L_98 (rfl : SH 0 = _) (by decide) (lRm C (by decide) (by decide)) dL_law_419 (Nat.le_of_ble_eq_true rfl) (fun N hN => ?_)
                      have hJ := hN.1
                      rw [hro3] at hJ
                      refine v_if_lt 440 dL_law_422 (by decide) (by omega) (fun h422 => ?_) (fun h422 => ?_)
                      · skip
                        exact absurd h422 (by omega)
                      · skip
                        refine v_aload_n 1 dL_law_425 rfl rfl ?_
                        refine v_iconst dL_law_426 ?_
                        refine v_iconst dL_law_427 ?_
                        refine lVv2 3 (q_stop hJ (by decide) (by decide)) k0_X3_stop ki_X3_stop ml_L_67 (rfl : SH 0 = _) (by decide) (lRm C (by decide) (by decide)) dL_law_428 (Nat.le_of_ble_eq_true rfl) ?_
                        refine l_eqI (u := 40) (by
                            rw [hw]
                            exact lay_40 u) ?_
                        refine v_bipush dL_law_431 (by decide) ?_
                        refine v_icmp_ne 440 dL_law_433 (by decide) (by decide) (by decide) (fun h433 => ?_) (fun h433 => ?_)
                        · skip
                          exact absurd h433 (by decide)
                        · skip
                          refine v_iconst dL_law_436 ?_
                          refine v_goto 441 dL_law_437 (by decide) ?_
                          exact hE _ _ rfl
          · skip
            exact absurd h86 (by omega)
        | succ dd ih =>
          intro turn K c8 c9 hd hE2
          obtain ⟨v, r, h, ro, ke, kr, t, L, hJ, hW, hI⟩ := hE2
          refine v_iload dL_law_82 rfl ?_
          refine v_bipush dL_law_84 (by decide) ?_
          refine v_icmp_ge 312 dL_law_86 (by decide) (by omega) (by decide) (fun h86 => ?_) (fun h86 => ?_)
          · skip
            exact absurd h86 (by omega)
          · skip
            refine v_iload dL_law_89 rfl ?_
            refine v_if_eq 312 dL_law_91 (by decide) (by decide) (fun h91 => ?_) (fun h91 => ?_)
            · skip
              exact absurd h91 (by decide)
            · skip
              refine v_aload_n 0 dL_law_94 rfl rfl ?_
              refine v_iconst dL_law_95 ?_
              refine v_iload dL_law_96 rfl ?_
              refine v_imul dL_law_98 ?_
              refine l_eqI (u := ((2 * turn : Nat) : Int)) (by omega) ?_
              refine lSx2 C (c_L_cell C.2.2.2.2 rfl (by omega)) k0_L_cell ki_L_cell ml_L_129 (lRm C (by decide) (by decide)) dL_law_99 (Nat.le_of_ble_eq_true rfl) (fun yy hyy => ?_)
              refine v_ist8 dL_law_102 rfl ?_
              refine v_aload_n 0 dL_law_104 rfl rfl ?_
              refine v_iconst dL_law_105 ?_
              refine v_iload dL_law_106 rfl ?_
              refine v_imul dL_law_108 ?_
              refine v_iconst dL_law_109 ?_
              refine v_iadd dL_law_110 ?_
              refine l_eqI (u := ((2 * turn + 1 : Nat) : Int)) (by omega) ?_
              refine lSx2 C (c_L_cell C.2.2.2.2 rfl (by omega)) k0_L_cell ki_L_cell ml_L_129 (lRm C (by decide) (by decide)) dL_law_111 (Nat.le_of_ble_eq_true rfl) (fun xx hxx => ?_)
              refine v_ist9 dL_law_114 rfl ?_
              refine v_aload_n 1 dL_law_116 rfl rfl ?_
              refine v_aload_n 2 dL_law_117 rfl rfl ?_
              refine v_aload_n 3 dL_law_118 rfl rfl ?_
              refine v_aload dL_law_119 rfl ?_
              refine v_aload dL_law_121 rfl ?_
              refine v_iload dL_law_123 rfl ?_
              refine lSq6 (c_L_acts hJ hW (y := yy) (hyy)) k0_L_acts ki_L_acts ml_L_133 (lRm C (by decide) (by decide)) dL_law_125 (Nat.le_of_ble_eq_true rfl) (fun N hN => ?_)
              obtain ⟨v, r, h, ro, ke, kr, t, L, hJ, hW, hc⟩ := hN
              have hI := hc _ hI
              refine v_if_eq 233 dL_law_128 (by decide) (by decide) (fun h128 => ?_) (fun h128 => ?_)
              · skip
                exact absurd h128 (by decide)
              · skip
                refine v_aload_n 1 dL_law_131 rfl rfl ?_
                refine v_aload_n 2 dL_law_132 rfl rfl ?_
                refine v_aload_n 3 dL_law_133 rfl rfl ?_
                refine v_aload dL_law_134 rfl ?_
                refine v_aload dL_law_136 rfl ?_
                refine v_iload dL_law_138 rfl ?_
                refine lSq6 (c_L_acts hJ hW (y := xx) (hxx)) k0_L_acts ki_L_acts ml_L_133 (lRm C (by decide) (by decide)) dL_law_140 (Nat.le_of_ble_eq_true rfl) (fun N hN => ?_)
                obtain ⟨v, r, h, ro, ke, kr, t, L, hJ, hW, hc⟩ := hN
                have hI := hc _ hI
                refine v_if_eq 233 dL_law_143 (by decide) (by decide) (fun h143 => ?_) (fun h143 => ?_)
                · skip
                  exact absurd h143 (by decide)
                · skip
                  refine v_aload_n 1 dL_law_146 rfl rfl ?_
                  refine v_aload_n 2 dL_law_147 rfl rfl ?_
                  refine v_aload_n 3 dL_law_148 rfl rfl ?_
                  refine v_aload dL_law_149 rfl ?_
                  refine v_aload dL_law_151 rfl ?_
                  refine v_iload dL_law_153 rfl ?_
                  refine v_bipush dL_law_155 (by decide) ?_
                  refine v_ishr dL_law_157 ?_
                  refine l_eqI (u := ((yy / 2048 : Nat) : Int)) (nu_shrN yy 11 hyy (by decide)) ?_
                  refine lSq6 (c_L_acts hJ hW (y := yy / 2048) (by omega)) k0_L_acts ki_L_acts ml_L_133 (lRm C (by decide) (by decide)) dL_law_158 (Nat.le_of_ble_eq_true rfl) (fun N hN => ?_)
                  obtain ⟨v, r, h, ro, ke, kr, t, L, hJ, hW, hc⟩ := hN
                  have hI := hc _ hI
                  refine v_if_eq 233 dL_law_161 (by decide) (by decide) (fun h161 => ?_) (fun h161 => ?_)
                  · skip
                    exact absurd h161 (by decide)
                  · skip
                    refine v_aload_n 1 dL_law_164 rfl rfl ?_
                    refine v_aload_n 2 dL_law_165 rfl rfl ?_
                    refine v_aload_n 3 dL_law_166 rfl rfl ?_
                    refine v_aload dL_law_167 rfl ?_
                    refine v_aload dL_law_169 rfl ?_
                    refine v_iload dL_law_171 rfl ?_
                    refine v_bipush dL_law_173 (by decide) ?_
                    refine v_ishr dL_law_175 ?_
                    refine l_eqI (u := ((xx / 2048 : Nat) : Int)) (nu_shrN xx 11 hxx (by decide)) ?_
                    refine lSq6 (c_L_acts hJ hW (y := xx / 2048) (by omega)) k0_L_acts ki_L_acts ml_L_133 (lRm C (by decide) (by decide)) dL_law_176 (Nat.le_of_ble_eq_true rfl) (fun N hN => ?_)
                    obtain ⟨v, r, h, ro, ke, kr, t, L, hJ, hW, hc⟩ := hN
                    have hI := hc _ hI
                    refine v_if_eq 233 dL_law_179 (by decide) (by decide) (fun h179 => ?_) (fun h179 => ?_)
                    · skip
                      exact absurd h179 (by decide)
                    · skip
                      refine v_aload_n 1 dL_law_182 rfl rfl ?_
                      refine v_aload_n 2 dL_law_183 rfl rfl ?_
                      refine v_aload_n 3 dL_law_184 rfl rfl ?_
                      refine v_aload dL_law_185 rfl ?_
                      refine v_aload dL_law_187 rfl ?_
                      refine v_iconst dL_law_189 ?_
                      refine v_iload dL_law_190 rfl ?_
                      refine v_bipush dL_law_192 (by decide) ?_
                      refine v_ishr dL_law_194 ?_
                      refine l_eqI (u := ((xx / 128 : Nat) : Int)) (nu_shrN xx 7 hxx (by decide)) ?_
                      refine v_bipush dL_law_195 (by decide) ?_
                      refine v_iand dL_law_197 ?_
                      obtain ⟨a1, ha1, hb1⟩ := vand_nat (xx / 128) (by omega) (-8)
                      refine l_eqI (u := ((a1 : Nat) : Int)) (ha1) ?_
                      refine v_iadd dL_law_198 ?_
                      refine l_eqI (u := ((2 + a1 : Nat) : Int)) (by omega) ?_
                      refine lSq6 (c_L_acts hJ hW (y := 2 + a1) (by omega)) k0_L_acts ki_L_acts ml_L_133 (lRm C (by decide) (by decide)) dL_law_199 (Nat.le_of_ble_eq_true rfl) (fun N hN => ?_)
                      obtain ⟨v, r, h, ro, ke, kr, t, L, hJ, hW, hc⟩ := hN
                      have hI := hc _ hI
                      refine v_if_eq 233 dL_law_202 (by decide) (by decide) (fun h202 => ?_) (fun h202 => ?_)
                      · skip
                        exact absurd h202 (by decide)
                      · skip
                        refine v_aload_n 1 dL_law_205 rfl rfl ?_
                        refine v_aload_n 2 dL_law_206 rfl rfl ?_
                        refine v_aload_n 3 dL_law_207 rfl rfl ?_
                        refine v_aload dL_law_208 rfl ?_
                        refine v_aload dL_law_210 rfl ?_
                        refine v_bipush dL_law_212 (by decide) ?_
                        refine v_iload dL_law_214 rfl ?_
                        refine v_bipush dL_law_216 (by decide) ?_
                        refine v_ishr dL_law_218 ?_
                        refine l_eqI (u := ((yy / 256 : Nat) : Int)) (nu_shrN yy 8 hyy (by decide)) ?_
                        refine v_bipush dL_law_219 (by decide) ?_
                        refine v_iand dL_law_221 ?_
                        obtain ⟨a2, ha2, hb2⟩ := vand_nat (yy / 256) (by omega) (-8)
                        refine l_eqI (u := ((a2 : Nat) : Int)) (ha2) ?_
                        refine v_iadd dL_law_222 ?_
                        refine l_eqI (u := ((6 + a2 : Nat) : Int)) (by omega) ?_
                        refine lSq6 (c_L_acts hJ hW (y := 6 + a2) (by omega)) k0_L_acts ki_L_acts ml_L_133 (lRm C (by decide) (by decide)) dL_law_223 (Nat.le_of_ble_eq_true rfl) (fun N hN => ?_)
                        obtain ⟨v, r, h, ro, ke, kr, t, L, hJ, hW, hc⟩ := hN
                        have hI := hc _ hI
                        refine v_if_eq 233 dL_law_226 (by decide) (by decide) (fun h226 => ?_) (fun h226 => ?_)
                        · skip
                          exact absurd h226 (by decide)
                        · skip
                          refine v_iconst dL_law_229 ?_
                          refine v_goto 234 dL_law_230 (by decide) ?_
                          refine v_ist6 dL_law_234 rfl ?_
                          refine v_iload dL_law_236 rfl ?_
                          refine v_if_eq 303 dL_law_238 (by decide) (by decide) (fun h238 => ?_) (fun h238 => ?_)
                          · skip
                            exact absurd h238 (by decide)
                          · skip
                            refine v_aload_n 1 dL_law_241 rfl rfl ?_
                            refine v_sipush dL_law_242 (by decide) ?_
                            refine lSq2 (c_L_sound hJ hI (by omega)) k0_L_sound ki_L_sound ml_L_137 (lRm C (by decide) (by decide)) dL_law_245 (Nat.le_of_ble_eq_true rfl) (fun N hN => ?_)
                            have hJ := hN.1
                            have hW := hW.x hN.2
                            refine v_if_eq 303 dL_law_248 (by decide) (by decide) (fun h248 => ?_) (fun h248 => ?_)
                            · skip
                              exact absurd h248 (by decide)
                            · skip
                              refine v_aload_n 1 dL_law_251 rfl rfl ?_
                              refine v_iconst dL_law_252 ?_
                              refine v_iload dL_law_253 rfl ?_
                              refine v_bipush dL_law_255 (by decide) ?_
                              refine v_ishr dL_law_257 ?_
                              refine l_eqI (u := ((yy / 262144 : Nat) : Int)) (nu_shrN yy 18 hyy (by decide)) ?_
                              refine v_bipush dL_law_258 (by decide) ?_
                              refine v_irem dL_law_260 (by omega) (by decide) (by omega) ?_
                              refine l_eqI (u := (((yy / 262144) % 60 : Nat) : Int)) (md_n (yy / 262144) 60) ?_
                              refine v_iadd dL_law_261 ?_
                              refine l_eqI (u := ((1 + yy / 262144 % 60 : Nat) : Int)) (by omega) ?_
                              refine lSq2 (c_L_goes hJ hI (q0 := 1 + yy / 262144 % 60) (by omega)) k0_L_goes ki_L_goes ml_L_141 (lRm C (by decide) (by decide)) dL_law_262 (Nat.le_of_ble_eq_true rfl) (fun N hN => ?_)
                              have hW := (hW.x hN.2).same (sTks_same hI.1 (1 + yy / 262144 % 60))
                              have hI := (wI_ticks hI (1 + yy / 262144 % 60)).1
                              obtain ⟨r, h, ro, ke, kr, t, L, hJ⟩ := hN.1
                              refine v_if_eq 303 dL_law_265 (by decide) (by decide) (fun h265 => ?_) (fun h265 => ?_)
                              · skip
                                exact absurd h265 (by decide)
                              · skip
                                refine v_aload_n 1 dL_law_268 rfl rfl ?_
                                refine v_sipush dL_law_269 (by decide) ?_
                                refine lSq2 (c_L_sound hJ hI (by omega)) k0_L_sound ki_L_sound ml_L_137 (lRm C (by decide) (by decide)) dL_law_272 (Nat.le_of_ble_eq_true rfl) (fun N hN => ?_)
                                have hJ := hN.1
                                have hW := hW.x hN.2
                                refine v_if_eq 303 dL_law_275 (by decide) (by decide) (fun h275 => ?_) (fun h275 => ?_)
                                · skip
                                  exact absurd h275 (by decide)
                                · skip
                                  refine v_aload_n 1 dL_law_278 rfl rfl ?_
                                  refine lSq1 (c_L_searches hJ) k0_L_searches ki_L_searches ml_L_144 (lRm C (by decide) (by decide)) dL_law_279 (Nat.le_of_ble_eq_true rfl) (fun N hN => ?_)
                                  have hJ := hN.1
                                  have hW := hW.x hN.2
                                  refine v_if_eq 303 dL_law_282 (by decide) (by decide) (fun h282 => ?_) (fun h282 => ?_)
                                  · skip
                                    exact absurd h282 (by decide)
                                  · skip
                                    refine v_iload dL_law_285 rfl ?_
                                    refine v_iconst dL_law_287 ?_
                                    refine v_irem dL_law_288 (by omega) (by decide) (by omega) ?_
                                    refine l_eqI (u := ((turn % 3 : Nat) : Int)) (md_n turn 3) ?_
                                    refine v_if_gt 299 dL_law_289 (by decide) (by omega) (fun h289 => ?_) (fun h289 => ?_)
                                    · skip
                                      refine v_iconst dL_law_299 ?_
                                      refine v_goto 304 dL_law_300 (by decide) ?_
                                      refine v_ist6 dL_law_304 rfl ?_
                                      refine v_iinc7 dL_law_306 rfl ?_
                                      refine v_goto 82 dL_law_309 (by decide) ?_
                                      exact ih (turn + 1) _ _ _ (by omega) ⟨_, _, _, _, _, _, _, _, hJ, hW, hI.mono (by omega)⟩
                                    · skip
                                      refine v_aload_n 1 dL_law_292 rfl rfl ?_
                                      refine lSq1 (c_L_refuses hJ) k0_L_refuses ki_L_refuses ml_L_148 (lRm C (by decide) (by decide)) dL_law_293 (Nat.le_of_ble_eq_true rfl) (fun N hN => ?_)
                                      have hJ := hN.1
                                      have hW := hW.x hN.2
                                      refine v_if_eq 303 dL_law_296 (by decide) (by decide) (fun h296 => ?_) (fun h296 => ?_)
                                      · skip
                                        exact absurd h296 (by decide)
                                      · skip
                                        refine v_iconst dL_law_299 ?_
                                        refine v_goto 304 dL_law_300 (by decide) ?_
                                        refine v_ist6 dL_law_304 rfl ?_
                                        refine v_iinc7 dL_law_306 rfl ?_
                                        refine v_goto 82 dL_law_309 (by decide) ?_
                                        exact ih (turn + 1) _ _ _ (by omega) ⟨_, _, _, _, _, _, _, _, hJ, hW, hI.mono (by omega)⟩
      exact lp82 7 0 _ _ _ rfl ⟨_, _, _, _, _, _, _, _, hJ, hW, wI_0⟩
