/-! ===== the class: the questions with any arguments ===== -/
set_option maxRecDepth 100000 in
set_option maxHeartbeats 400000 in
theorem c_X3_stop {l : Launch} {G : vGG} {M : Mem} {v : Sg} (hLX : LayX M.2) (hX : XS 1 v M.1) (hI : sInv v) {a w : Int} (ha : R32 a) (hwR : R32 w) : Cv l yX3_stop cX3_stop 3 (some .int) (rmo 2 42) G [aR (some 0), aI a, aI w] M (some (aI (aStop v a w))) M := by
  refine Co.ofV (plainFor_of_name (by decide)) rfl rfl ?_
  intro x hxl hxR hlk hrt Q hQ
  show vO x Q G cX3_stop RX3 0 [some (aR (some 0)), some (aI a), some (aI w)] [] M
  refine v_iload_n 1 dX3_stop_0 rfl rfl ?_
  refine oSv1 (c_X3_isStop (by omega)) k0_X3_isStop ki_X3_isStop ml_X3_47 (vRo_of hxR (by decide) (by decide)) dX3_stop_1 (Nat.le_of_ble_eq_true rfl) ?_
  refine v_if_ne 10 dX3_stop_4 (by decide) (bP_R _) (fun h4 => ?_) (fun h4 => ?_)
  · skip
    have ga := bP_n0.mp h4
    obtain ⟨s, rfl⟩ : ∃ s : Nat, a = ((s : Nat) : Int) := ⟨(a).toNat, by omega⟩
    refine v_iload_n 2 dX3_stop_10 rfl rfl ?_
    rcases (show w = 0 ∨ w = 1 ∨ w = 2 ∨ w = 3 ∨ w = 4 ∨ ¬ (0 ≤ w ∧ w ≤ 4) by omega) with rfl | rfl | rfl | rfl | rfl | hw
    · skip
      refine v_tableIn 44 dX3_stop_11 (by decide) (by decide) (by decide) rfl (by decide) ?_
      refine v_aload_n 0 dX3_stop_44 rfl rfl ?_
      refine v_getR lk_X3_10 rfl (rfl : SH 0 = _) (ow_0 hLX) dX3_stop_45 ?_
      refine v_getR lk_X3_67 rfl (st_o stB_1) (hLX.1 1 stB_1 0 (by decide)) dX3_stop_48 ?_
      refine v_iload_n 1 dX3_stop_51 rfl rfl ?_
      refine o_iald (j := s) (u := v (24 + 5 * (s))) (st_a0 stB_1) (by omega) (by omega) (xs_man hX (by omega)) dX3_stop_52 ?_
      refine o_iret hQ hlk hrt dX3_stop_53 ?_
      exact ⟨by unfold aStop; rw [if_pos ga]; rfl, rfl⟩
    · skip
      refine v_tableIn 54 dX3_stop_11 (by decide) (by decide) (by decide) rfl (by decide) ?_
      refine v_aload_n 0 dX3_stop_54 rfl rfl ?_
      refine v_getR lk_X3_10 rfl (rfl : SH 0 = _) (ow_0 hLX) dX3_stop_55 ?_
      refine v_getR lk_X3_63 rfl (st_o stB_1) (hLX.1 1 stB_1 1 (by decide)) dX3_stop_58 ?_
      refine v_iload_n 1 dX3_stop_61 rfl rfl ?_
      refine o_iald (j := s) (u := v (24 + 5 * (s) + 1)) (st_a1 stB_1) (by omega) (by omega) (xs_dem hX (by omega)) dX3_stop_62 ?_
      refine o_iret hQ hlk hrt dX3_stop_63 ?_
      exact ⟨by unfold aStop; rw [if_pos ga]; rfl, rfl⟩
    · skip
      refine v_tableIn 64 dX3_stop_11 (by decide) (by decide) (by decide) rfl (by decide) ?_
      refine v_aload_n 0 dX3_stop_64 rfl rfl ?_
      refine v_getR lk_X3_10 rfl (rfl : SH 0 = _) (ow_0 hLX) dX3_stop_65 ?_
      refine v_getR lk_X3_70 rfl (st_o stB_1) (hLX.1 1 stB_1 2 (by decide)) dX3_stop_68 ?_
      refine v_iload_n 1 dX3_stop_71 rfl rfl ?_
      refine o_iald (j := s) (u := v (24 + 5 * (s) + 2)) (st_a2 stB_1) (by omega) (by omega) (xs_lea hX (by omega)) dX3_stop_72 ?_
      refine o_iret hQ hlk hrt dX3_stop_73 ?_
      exact ⟨by unfold aStop; rw [if_pos ga]; rfl, rfl⟩
    · skip
      refine v_tableIn 74 dX3_stop_11 (by decide) (by decide) (by decide) rfl (by decide) ?_
      refine v_aload_n 0 dX3_stop_74 rfl rfl ?_
      refine v_getR lk_X3_10 rfl (rfl : SH 0 = _) (ow_0 hLX) dX3_stop_75 ?_
      refine o_getI (u := ((sDrw v : Nat) : Int)) lk_X3_80 rfl (st_o stB_1) (xs_drw hX) dX3_stop_78 ?_
      refine v_iload_n 1 dX3_stop_81 rfl rfl ?_
      have hdl := sDrw_lt hI
      have hdb : (sDrw v).testBit s = true ↔ v (24 + 5 * s + 3) = 1 := sDr_bit hI 8 (Nat.le_refl _) s (by omega)
      have hs1 := iv_st hI (show s < 8 by omega)
      refine oSv2 (c_X3_isIn (Int.natCast_nonneg _) (by omega) (by omega)) k0_X3_isIn ki_X3_isIn ml_X3_84 (vRo_of hxR (by decide) (by decide)) dX3_stop_82 (Nat.le_of_ble_eq_true rfl) ?_
      refine v_if_eq 92 dX3_stop_85 (by decide) (bP_R _) (fun h85 => ?_) (fun h85 => ?_)
      · skip
        have g := bP_0.mp h85
        have g2 : ¬ v (24 + 5 * s + 3) = 1 := fun q => g (by simpa [bt] using hdb.mpr q)
        refine v_iconst dX3_stop_92 ?_
        refine o_iret hQ hlk hrt dX3_stop_93 ?_
        first | exact ⟨by unfold aStop; rw [if_pos ga]; show some (aI 0) = some (aI (v (24 + 5 * s + 3))); rw [show v (24 + 5 * s + 3) = 0 by omega], rfl⟩ | exact ⟨by unfold aStop; rw [if_pos ga]; show some (aI 1) = some (aI (v (24 + 5 * s + 3))); rw [g2], rfl⟩
      · skip
        have g := bP_n0.mp h85
        have g2 : v (24 + 5 * s + 3) = 1 := hdb.mp (by simpa [bt] using g)
        refine v_iconst dX3_stop_88 ?_
        refine v_goto 93 dX3_stop_89 (by decide) ?_
        refine o_iret hQ hlk hrt dX3_stop_93 ?_
        first | exact ⟨by unfold aStop; rw [if_pos ga]; show some (aI 0) = some (aI (v (24 + 5 * s + 3))); rw [show v (24 + 5 * s + 3) = 0 by omega], rfl⟩ | exact ⟨by unfold aStop; rw [if_pos ga]; show some (aI 1) = some (aI (v (24 + 5 * s + 3))); rw [g2], rfl⟩
    · skip
      refine v_tableIn 94 dX3_stop_11 (by decide) (by decide) (by decide) rfl (by decide) ?_
      refine v_aload_n 0 dX3_stop_94 rfl rfl ?_
      refine v_getR lk_X3_10 rfl (rfl : SH 0 = _) (ow_0 hLX) dX3_stop_95 ?_
      refine v_getR lk_X3_88 rfl (st_o stB_1) (hLX.1 1 stB_1 3 (by decide)) dX3_stop_98 ?_
      refine v_iload_n 1 dX3_stop_101 rfl rfl ?_
      refine o_iald (j := s) (u := v (24 + 5 * (s) + 4)) (st_a3 stB_1) (by omega) (by omega) (xs_got hX (by omega)) dX3_stop_102 ?_
      refine o_iret hQ hlk hrt dX3_stop_103 ?_
      exact ⟨by unfold aStop; rw [if_pos ga]; rfl, rfl⟩
    · skip
      refine v_tableOut 104 dX3_stop_11 (by omega) (by omega) (by decide) ?_
      refine v_ldc (-1000002) kc_X3_59 (by decide) dX3_stop_104 ?_
      refine o_iret hQ hlk hrt dX3_stop_106 ?_
      exact ⟨by unfold aStop; rw [if_pos ga, if_neg hw], rfl⟩
  · skip
    have ga := bP_0.mp h4
    refine v_ldc (-1000001) kc_X3_51 (by decide) dX3_stop_7 ?_
    refine o_iret hQ hlk hrt dX3_stop_9 ?_
    first | exact ⟨by unfold aStop; rw [if_neg ga], rfl⟩
set_option maxRecDepth 100000 in
set_option maxHeartbeats 400000 in
theorem c_X3_strokes {l : Launch} {G : vGG} {M : Mem} {v : Sg} (hLX : LayX M.2) (hX : XS 1 v M.1) (hI : sInv v) {a : Int} (ha : R32 a) : Cv l yX3_strokes cX3_strokes 2 (some .int) (rmo 1 22) G [aR (some 0), aI a] M (some (aI (aStrokes v a))) M := by
  refine Co.ofV (plainFor_of_name (by decide)) rfl rfl ?_
  intro x hxl hxR hlk hrt Q hQ
  show vO x Q G cX3_strokes RX3 0 [some (aR (some 0)), some (aI a)] [] M
  refine v_iload_n 1 dX3_strokes_0 rfl rfl ?_
  refine v_iconst dX3_strokes_1 ?_
  refine v_iconst dX3_strokes_2 ?_
  refine oSv3 (c_X3_isWithin (by omega) (by decide) (by decide)) k0_X3_isWithin ki_X3_isWithin ml_X3_55 (vRo_of hxR (by decide) (by decide)) dX3_strokes_3 (Nat.le_of_ble_eq_true rfl) ?_
  refine v_if_ne 12 dX3_strokes_6 (by decide) (bP_R _) (fun h6 => ?_) (fun h6 => ?_)
  · skip
    have ga := bP_n0.mp h6
    obtain ⟨s, rfl⟩ : ∃ s : Nat, a = ((s : Nat) : Int) := ⟨(a).toNat, by omega⟩
    refine v_aload_n 0 dX3_strokes_12 rfl rfl ?_
    refine v_getR lk_X3_10 rfl (rfl : SH 0 = _) (ow_0 hLX) dX3_strokes_13 ?_
    refine v_getR lk_X3_214 rfl (st_o stB_1) (hLX.1 1 stB_1 8 (by decide)) dX3_strokes_16 ?_
    refine v_iload_n 1 dX3_strokes_19 rfl rfl ?_
    refine o_iald (j := s) (u := v (18 + (s))) (st_a8 stB_1) (by omega) (by omega) (xs_sb hX (by omega)) dX3_strokes_20 ?_
    refine o_iret hQ hlk hrt dX3_strokes_21 ?_
    first | exact ⟨by unfold aStrokes; rw [if_pos ga]; rfl, rfl⟩
  · skip
    have ga := bP_0.mp h6
    refine v_ldc (-1000001) kc_X3_51 (by decide) dX3_strokes_9 ?_
    refine o_iret hQ hlk hrt dX3_strokes_11 ?_
    first | exact ⟨by unfold aStrokes; rw [if_neg ga], rfl⟩
set_option maxRecDepth 100000 in
set_option maxHeartbeats 400000 in
theorem c_X3_tell {l : Launch} {G : vGG} {M : Mem} {v : Sg} (hLX : LayX M.2) (hX : XS 1 v M.1) (hI : sInv v) {a : Int} (ha : R32 a) : Co l yX3_tell cX3_tell 2 (some .int) (rmo 6 137) G [aR (some 0), aI a] M (fun r M' => r = some (aI (aTell v a)) ∧ fz 26 40 1 0 M M') := by
  refine Co.ofV (plainFor_of_name (by decide)) rfl rfl ?_
  intro x hxl hxR hlk hrt Q hQ
  show vO x Q G cX3_tell RX3 0 [some (aR (some 0)), some (aI a)] [] M
  refine v_iload_n 1 dX3_tell_0 rfl rfl ?_
  refine v_iconst dX3_tell_1 ?_
  refine v_bipush dX3_tell_2 (by decide) ?_
  refine oSv3 (c_X3_isWithin (by omega) (by decide) (by decide)) k0_X3_isWithin ki_X3_isWithin ml_X3_55 (vRo_of hxR (by decide) (by decide)) dX3_tell_4 (Nat.le_of_ble_eq_true rfl) ?_
  refine v_if_ne 13 dX3_tell_7 (by decide) (bP_R _) (fun h7 => ?_) (fun h7 => ?_)
  · skip
    have ga := bP_n0.mp h7
    obtain ⟨s, rfl⟩ : ∃ s : Nat, a = ((s : Nat) : Int) := ⟨(a).toNat, by omega⟩
    refine v_aload_n 0 dX3_tell_13 rfl rfl ?_
    refine oVm0 3 (c_X3_readWind hLX hX hI) k0_X3_readWind ki_X3_readWind ml_X3_172 (rfl : SH 0 = _) (by decide) (vRo_of hxR (by decide) (by decide)) dX3_tell_14 (Nat.le_of_ble_eq_true rfl) (fun N hN => ?_)
    obtain ⟨hF, hW⟩ := hN
    have hLN := fz_layX hF hLX
    have hXN := hX.keep (fun i h1 h2 => hF.2 i (by omega) (by omega))
    have hFq : fz 26 40 1 0 M N := ⟨hF.1, fun i h1 h2 => hF.2 i (by omega) (by omega)⟩
    refine v_aload_n 0 dX3_tell_17 rfl rfl ?_
    refine v_iload_n 1 dX3_tell_18 rfl rfl ?_
    refine oVv1 3 (c_X3_numberTold hLN hXN hI hW (by omega)) k0_X3_numberTold ki_X3_numberTold ml_X3_175 (rfl : SH 0 = _) (by decide) (vRo_of hxR (by decide) (by decide)) dX3_tell_19 (Nat.le_of_ble_eq_true rfl) ?_
    refine o_iret hQ hlk hrt dX3_tell_22 ?_
    first | exact ⟨by unfold aTell; rw [if_pos ga]; rfl, hFq⟩
  · skip
    have ga := bP_0.mp h7
    refine v_ldc (-1000001) kc_X3_51 (by decide) dX3_tell_10 ?_
    refine o_iret hQ hlk hrt dX3_tell_12 ?_
    first | exact ⟨by unfold aTell; rw [if_neg ga], fz_rf⟩
set_option maxRecDepth 100000 in
set_option maxHeartbeats 400000 in
theorem c_X3_chest {l : Launch} {G : vGG} {M : Mem} {v : Sg} (hLX : LayX M.2) (hX : XS 1 v M.1) (hI : sInv v) {a w : Int} (ha : R32 a) (hwR : R32 w) : Co l yX3_chest cX3_chest 3 (some .int) (rmo 6 137) G [aR (some 0), aI a, aI w] M (fun r M' => r = some (aI (aChest v a w)) ∧ fz 26 40 1 0 M M') := by
  refine Co.ofV (plainFor_of_name (by decide)) rfl rfl ?_
  intro x hxl hxR hlk hrt Q hQ
  show vO x Q G cX3_chest RX3 0 [some (aR (some 0)), some (aI a), some (aI w)] [] M
  refine v_iload_n 1 dX3_chest_0 rfl rfl ?_
  refine oSv1 (c_X3_isManual (by omega)) k0_X3_isManual ki_X3_isManual ml_X3_52 (vRo_of hxR (by decide) (by decide)) dX3_chest_1 (Nat.le_of_ble_eq_true rfl) ?_
  refine v_if_ne 10 dX3_chest_4 (by decide) (bP_R _) (fun h4 => ?_) (fun h4 => ?_)
  · skip
    have ga := bP_n0.mp h4
    obtain ⟨s, rfl⟩ : ∃ s : Nat, a = ((s : Nat) : Int) := ⟨(a).toNat, by omega⟩
    refine v_aload_n 0 dX3_chest_10 rfl rfl ?_
    refine oVm0 3 (c_X3_readWind hLX hX hI) k0_X3_readWind ki_X3_readWind ml_X3_172 (rfl : SH 0 = _) (by decide) (vRo_of hxR (by decide) (by decide)) dX3_chest_11 (Nat.le_of_ble_eq_true rfl) (fun N hN => ?_)
    obtain ⟨hF, hW⟩ := hN
    have hLN := fz_layX hF hLX
    have hXN := hX.keep (fun i h1 h2 => hF.2 i (by omega) (by omega))
    have hFq : fz 26 40 1 0 M N := ⟨hF.1, fun i h1 h2 => hF.2 i (by omega) (by omega)⟩
    refine v_aload_n 0 dX3_chest_14 rfl rfl ?_
    refine v_iload_n 1 dX3_chest_15 rfl rfl ?_
    refine v_iload_n 2 dX3_chest_16 rfl rfl ?_
    refine oVv2 3 (c_X3_chestTold hLN hXN hI hW (by omega) hwR) k0_X3_chestTold ki_X3_chestTold ml_X3_202 (rfl : SH 0 = _) (by decide) (vRo_of hxR (by decide) (by decide)) dX3_chest_17 (Nat.le_of_ble_eq_true rfl) ?_
    refine o_iret hQ hlk hrt dX3_chest_20 ?_
    exact ⟨by unfold aChest; rw [if_pos ga, Int.toNat_natCast], hFq⟩
  · skip
    have ga := bP_0.mp h4
    refine v_ldc (-1000001) kc_X3_51 (by decide) dX3_chest_7 ?_
    refine o_iret hQ hlk hrt dX3_chest_9 ?_
    first | exact ⟨by unfold aChest; rw [if_neg ga], fz_rf⟩
set_option maxRecDepth 100000 in
set_option maxHeartbeats 400000 in
theorem c_X3_pipe {l : Launch} {G : vGG} {M : Mem} {v : Sg} (hLX : LayX M.2) (hX : XS 1 v M.1) (hI : sInv v) {a b w : Int} (ha : R32 a) (hbR : R32 b) (hwR : R32 w) : Co l yX3_pipe cX3_pipe 4 (some .int) (rmo 6 137) G [aR (some 0), aI a, aI b, aI w] M (fun r M' => r = some (aI (aPipe v a b w)) ∧ fz 26 40 1 0 M M') := by
  refine Co.ofV (plainFor_of_name (by decide)) rfl rfl ?_
  intro x hxl hxR hlk hrt Q hQ
  show vO x Q G cX3_pipe RX3 0 [some (aR (some 0)), some (aI a), some (aI b), some (aI w)] [] M
  refine v_iload_n 1 dX3_pipe_0 rfl rfl ?_
  refine oSv1 (c_X3_isStop (by omega)) k0_X3_isStop ki_X3_isStop ml_X3_47 (vRo_of hxR (by decide) (by decide)) dX3_pipe_1 (Nat.le_of_ble_eq_true rfl) ?_
  refine v_if_eq 14 dX3_pipe_4 (by decide) (bP_R _) (fun h4 => ?_) (fun h4 => ?_)
  · skip
    have ga := bP_0.mp h4
    refine v_ldc (-1000001) kc_X3_51 (by decide) dX3_pipe_14 ?_
    refine o_iret hQ hlk hrt dX3_pipe_16 ?_
    first | exact ⟨by unfold aPipe; rw [if_neg ga], fz_rf⟩ | exact ⟨by unfold aPipe; rw [if_pos ga, if_neg gb], fz_rf⟩
  · skip
    have ga := bP_n0.mp h4
    obtain ⟨s, rfl⟩ : ∃ s : Nat, a = ((s : Nat) : Int) := ⟨(a).toNat, by omega⟩
    refine v_iload_n 2 dX3_pipe_7 rfl rfl ?_
    refine oSv1 (c_X3_isKey (by omega)) k0_X3_isKey ki_X3_isKey ml_X3_100 (vRo_of hxR (by decide) (by decide)) dX3_pipe_8 (Nat.le_of_ble_eq_true rfl) ?_
    refine v_if_ne 17 dX3_pipe_11 (by decide) (bP_R _) (fun h11 => ?_) (fun h11 => ?_)
    · skip
      have gb := bP_n0.mp h11
      obtain ⟨k, rfl⟩ : ∃ k : Nat, b = ((k : Nat) : Int) := ⟨(b).toNat, by omega⟩
      refine v_iload_n 3 dX3_pipe_17 rfl rfl ?_
      refine v_iconst dX3_pipe_18 ?_
      refine v_iconst dX3_pipe_19 ?_
      refine oSv3 (c_X3_isWithin (by omega) (by decide) (by decide)) k0_X3_isWithin ki_X3_isWithin ml_X3_55 (vRo_of hxR (by decide) (by decide)) dX3_pipe_20 (Nat.le_of_ble_eq_true rfl) ?_
      refine v_if_ne 29 dX3_pipe_23 (by decide) (bP_R _) (fun h23 => ?_) (fun h23 => ?_)
      · skip
        have gc := bP_n0.mp h23
        obtain ⟨q, rfl⟩ : ∃ q : Nat, w = ((q : Nat) : Int) := ⟨(w).toNat, by omega⟩
        refine v_aload_n 0 dX3_pipe_29 rfl rfl ?_
        refine oVm0 3 (c_X3_readWind hLX hX hI) k0_X3_readWind ki_X3_readWind ml_X3_172 (rfl : SH 0 = _) (by decide) (vRo_of hxR (by decide) (by decide)) dX3_pipe_30 (Nat.le_of_ble_eq_true rfl) (fun N hN => ?_)
        obtain ⟨hF, hW⟩ := hN
        have hLN := fz_layX hF hLX
        have hXN := hX.keep (fun i h1 h2 => hF.2 i (by omega) (by omega))
        have hFq : fz 26 40 1 0 M N := ⟨hF.1, fun i h1 h2 => hF.2 i (by omega) (by omega)⟩
        refine v_aload_n 0 dX3_pipe_33 rfl rfl ?_
        refine v_iload_n 1 dX3_pipe_34 rfl rfl ?_
        refine v_iload_n 2 dX3_pipe_35 rfl rfl ?_
        refine v_iload_n 3 dX3_pipe_36 rfl rfl ?_
        refine oVv3 3 (c_X3_pipeTold hLN hXN hI hW (by omega) (by omega) (by omega)) k0_X3_pipeTold ki_X3_pipeTold ml_X3_217 (rfl : SH 0 = _) (by decide) (vRo_of hxR (by decide) (by decide)) dX3_pipe_37 (Nat.le_of_ble_eq_true rfl) ?_
        refine o_iret hQ hlk hrt dX3_pipe_40 ?_
        first | exact ⟨by unfold aPipe; rw [if_pos ga, if_pos gb, if_pos gc]; rfl, hFq⟩
      · skip
        have gc := bP_0.mp h23
        refine v_ldc (-1000002) kc_X3_59 (by decide) dX3_pipe_26 ?_
        refine o_iret hQ hlk hrt dX3_pipe_28 ?_
        first | exact ⟨by unfold aPipe; rw [if_pos ga, if_pos gb, if_neg gc], fz_rf⟩
    · skip
      have gb := bP_0.mp h11
      refine v_ldc (-1000001) kc_X3_51 (by decide) dX3_pipe_14 ?_
      refine o_iret hQ hlk hrt dX3_pipe_16 ?_
      first | exact ⟨by unfold aPipe; rw [if_neg ga], fz_rf⟩ | exact ⟨by unfold aPipe; rw [if_pos ga, if_neg gb], fz_rf⟩
set_option maxRecDepth 100000 in
set_option maxHeartbeats 400000 in
theorem c_X3_reason {l : Launch} {G : vGG} {M : Mem} {v : Sg} (hLX : LayX M.2) (hX : XS 1 v M.1) (hI : sInv v) {a b : Int} (ha : R32 a) (hbR : R32 b) : Co l yX3_reason cX3_reason 3 (some .int) (rmo 6 137) G [aR (some 0), aI a, aI b] M (fun r M' => r = some (aI (aReason v a b)) ∧ fz 26 40 1 0 M M') := by
  refine Co.ofV (plainFor_of_name (by decide)) rfl rfl ?_
  intro x hxl hxR hlk hrt Q hQ
  show vO x Q G cX3_reason RX3 0 [some (aR (some 0)), some (aI a), some (aI b)] [] M
  refine v_iload_n 1 dX3_reason_0 rfl rfl ?_
  refine oSv1 (c_X3_isStop (by omega)) k0_X3_isStop ki_X3_isStop ml_X3_47 (vRo_of hxR (by decide) (by decide)) dX3_reason_1 (Nat.le_of_ble_eq_true rfl) ?_
  refine v_if_eq 14 dX3_reason_4 (by decide) (bP_R _) (fun h4 => ?_) (fun h4 => ?_)
  · skip
    have ga := bP_0.mp h4
    refine v_ldc (-1000001) kc_X3_51 (by decide) dX3_reason_14 ?_
    refine o_iret hQ hlk hrt dX3_reason_16 ?_
    first | exact ⟨by unfold aReason; rw [if_neg ga], fz_rf⟩ | exact ⟨by unfold aReason; rw [if_pos ga, if_neg gb], fz_rf⟩
  · skip
    have ga := bP_n0.mp h4
    obtain ⟨s, rfl⟩ : ∃ s : Nat, a = ((s : Nat) : Int) := ⟨(a).toNat, by omega⟩
    refine v_iload_n 2 dX3_reason_7 rfl rfl ?_
    refine oSv1 (c_X3_isKey (by omega)) k0_X3_isKey ki_X3_isKey ml_X3_100 (vRo_of hxR (by decide) (by decide)) dX3_reason_8 (Nat.le_of_ble_eq_true rfl) ?_
    refine v_if_ne 17 dX3_reason_11 (by decide) (bP_R _) (fun h11 => ?_) (fun h11 => ?_)
    · skip
      have gb := bP_n0.mp h11
      obtain ⟨k, rfl⟩ : ∃ k : Nat, b = ((k : Nat) : Int) := ⟨(b).toNat, by omega⟩
      refine v_aload_n 0 dX3_reason_17 rfl rfl ?_
      refine oVm0 3 (c_X3_readWind hLX hX hI) k0_X3_readWind ki_X3_readWind ml_X3_172 (rfl : SH 0 = _) (by decide) (vRo_of hxR (by decide) (by decide)) dX3_reason_18 (Nat.le_of_ble_eq_true rfl) (fun N hN => ?_)
      obtain ⟨hF, hW⟩ := hN
      have hLN := fz_layX hF hLX
      have hXN := hX.keep (fun i h1 h2 => hF.2 i (by omega) (by omega))
      have hFq : fz 26 40 1 0 M N := ⟨hF.1, fun i h1 h2 => hF.2 i (by omega) (by omega)⟩
      refine v_aload_n 0 dX3_reason_21 rfl rfl ?_
      refine v_iload_n 1 dX3_reason_22 rfl rfl ?_
      refine v_iload_n 2 dX3_reason_23 rfl rfl ?_
      refine oVv2 3 (c_X3_reasonTold hLN hXN hI hW (by omega) (by omega)) k0_X3_reasonTold ki_X3_reasonTold ml_X3_234 (rfl : SH 0 = _) (by decide) (vRo_of hxR (by decide) (by decide)) dX3_reason_24 (Nat.le_of_ble_eq_true rfl) ?_
      refine o_iret hQ hlk hrt dX3_reason_27 ?_
      first | exact ⟨by unfold aReason; rw [if_pos ga, if_pos gb]; rfl, hFq⟩
    · skip
      have gb := bP_0.mp h11
      refine v_ldc (-1000001) kc_X3_51 (by decide) dX3_reason_14 ?_
      refine o_iret hQ hlk hrt dX3_reason_16 ?_
      first | exact ⟨by unfold aReason; rw [if_neg ga], fz_rf⟩ | exact ⟨by unfold aReason; rw [if_pos ga, if_neg gb], fz_rf⟩
def gLo (v : Sg) (p : Nat) : Int := if (sMi v (sDrw v) p).2.2 = true then (sMi v (sDrw v) p).1 else 1000000
def gHi (v : Sg) (p : Nat) : Int := if (sMi v (sDrw v) p).2.2 = true then (sMi v (sDrw v) p).2.1 else -1000000
theorem gLo_R {v : Sg} (hI : sInv v) {p : Nat} (hp : p ≤ 192) : R32 (gLo v p) ∧ R32 (gHi v p) := by
  have h := sMi_b hI (sDrw v) p hp
  unfold gLo gHi
  split <;> omega
theorem g_skip {v : Sg} {p : Nat} (h : ¬ sRs v (sDrw v) true (p / 24) (p % 24) = 0) : gLo v (p + 1) = gLo v p ∧ gHi v (p + 1) = gHi v p := by
  unfold gLo gHi
  rw [mi_e h]
  exact ⟨rfl, rfl⟩
theorem g_step {v : Sg} (hI : sInv v) {p : Nat} (hp : p < 192) (h : sRs v (sDrw v) true (p / 24) (p % 24) = 0) : min (gLo v p) (sPitch v (sDrw v) true (p / 24) (p % 24)) = gLo v (p + 1) ∧ max (gHi v p) (sPitch v (sDrw v) true (p / 24) (p % 24)) = gHi v (p + 1) := by
  have hb := sPitch_b hI (sDrw v) true (s := p / 24) (k := p % 24) (by omega) (by omega)
  have ht : (sMi v (sDrw v) (p + 1)).2.2 = true := by rw [sMi, if_pos h]
  unfold gLo gHi
  rw [if_pos ht, if_pos ht, sMi, if_pos h]
  dsimp only
  by_cases ha : (sMi v (sDrw v) p).2.2 = true
  · rw [if_pos ha, if_pos ha]
    have hn : ¬ (sMi v (sDrw v) p).2.2 = false := by rw [ha]; decide
    refine ⟨?_, ?_⟩
    · by_cases q : sPitch v (sDrw v) true (p / 24) (p % 24) < (sMi v (sDrw v) p).1
      · rw [if_pos (Or.inr q)]; omega
      · rw [if_neg (fun z => z.elim hn q)]; omega
    · by_cases q : (sMi v (sDrw v) p).2.1 < sPitch v (sDrw v) true (p / 24) (p % 24)
      · rw [if_pos (Or.inr q)]; omega
      · rw [if_neg (fun z => z.elim hn q)]; omega
  · rw [if_neg ha, if_neg ha]
    have hn : (sMi v (sDrw v) p).2.2 = false := by simpa using ha
    rw [if_pos (Or.inl hn), if_pos (Or.inl hn)]
    omega
theorem sMi_le {v : Sg} (st : Nat) : ∀ p, (sMi v st p).2.2 = true → (sMi v st p).1 ≤ (sMi v st p).2.1
  | 0, h => by cases h
  | p + 1, h => by
    have ih := sMi_le (v := v) st p
    rw [sMi] at h ⊢
    by_cases hr : sRs v st true (p / 24) (p % 24) = 0
    · rw [if_pos hr]
      dsimp only
      by_cases ha : (sMi v st p).2.2 = true
      · have := ih ha
        have hn : ¬ (sMi v st p).2.2 = false := by rw [ha]; decide
        by_cases q : sPitch v st true (p / 24) (p % 24) < (sMi v st p).1
        · rw [if_pos (Or.inr q), if_neg (fun z => z.elim hn (by omega))]
          omega
        · rw [if_neg (fun z => z.elim hn q)]
          by_cases q2 : (sMi v st p).2.1 < sPitch v st true (p / 24) (p % 24)
          · rw [if_pos (Or.inr q2)]; omega
          · rw [if_neg (fun z => z.elim hn q2)]; omega
      · have hn : (sMi v st p).2.2 = false := by simpa using ha
        rw [if_pos (Or.inl hn), if_pos (Or.inl hn)]
        omega
    · rw [if_neg hr] at h ⊢
      exact ih h
theorem g_end {v : Sg} : (gHi v 192 < gLo v 192 → sMist v = -1000005) ∧ (¬ gHi v 192 < gLo v 192 → sMist v = gHi v 192 - gLo v 192) := by
  have hl := sMi_le (v := v) (sDrw v) 192
  unfold gLo gHi sMist
  by_cases ha : (sMi v (sDrw v) 192).2.2 = true
  · rw [if_pos ha, if_pos ha, if_pos ha]
    have := hl ha
    exact ⟨fun q => by omega, fun _ => rfl⟩
  · rw [if_neg ha, if_neg ha, if_neg ha]
    exact ⟨fun _ => rfl, fun q => absurd (by decide) q⟩
set_option maxRecDepth 100000 in
set_option maxHeartbeats 400000 in
theorem c_X3_greatestDifference {l : Launch} {G : vGG} {M : Mem} {v : Sg} (hLX : LayX M.2) (hX : XS 1 v M.1) (hI : sInv v) (hW : WL 26 v (sDrw v) true M.1) : Cv l yX3_greatestDifference cX3_greatestDifference 6 (some .int) (rmo 4 87) G [aR (some 0)] M (some (aI (sMist v))) M := by
  refine Co.ofV (plainFor_of_name (by decide)) rfl rfl ?_
  intro x hxl hxR hlk hrt Q hQ
  show vO x Q G cX3_greatestDifference RX3 0 [some (aR (some 0)), none, none, none, none, none] [] M
  refine v_ldc (1000000) kc_X3_246 (by decide) dX3_greatestDifference_0 ?_
  refine v_ist1 dX3_greatestDifference_2 rfl ?_
  refine v_ldc (-1000000) kc_X3_247 (by decide) dX3_greatestDifference_3 ?_
  refine v_ist2 dX3_greatestDifference_5 rfl ?_
  refine v_iconst dX3_greatestDifference_6 ?_
  refine v_ist3 dX3_greatestDifference_7 rfl ?_
  have lp8 : ∀ (dd s : Nat) (c4 c5 : Option AV), s + dd = 8 → vO x Q G cX3_greatestDifference RX3 8 [some (aR (some 0)), some (aI (gLo v (24 * s))), some (aI (gHi v (24 * s))), some (aI (s : Int)), c4, c5] [] M := by
    intro dd
    induction dd with
    | zero =>
      intro s c4 c5 hd
      obtain rfl : s = 8 := by omega
      refine v_iload_n 3 dX3_greatestDifference_8 rfl rfl ?_
      refine v_bipush dX3_greatestDifference_9 (by decide) ?_
      refine v_icmp_ge 76 dX3_greatestDifference_11 (by decide) (by omega) (by decide) (fun h11 => ?_) (fun h11 => ?_)
      · skip
        rw [show 24 * 8 = 192 from rfl]
        refine v_iload_n 1 dX3_greatestDifference_76 rfl rfl ?_
        refine v_iload_n 2 dX3_greatestDifference_77 rfl rfl ?_
        have hgR := gLo_R hI (Nat.le_refl 192)
        refine v_icmp_le 86 dX3_greatestDifference_78 (by decide) hgR.1 hgR.2 (fun h78 => ?_) (fun h78 => ?_)
        · skip
          refine v_iload_n 2 dX3_greatestDifference_86 rfl rfl ?_
          refine v_iload_n 1 dX3_greatestDifference_87 rfl rfl ?_
          refine v_isub dX3_greatestDifference_88 ?_
          refine o_iret hQ hlk hrt dX3_greatestDifference_89 ?_
          first | exact ⟨by rw [g_end.1 (by omega)], rfl⟩ | exact ⟨by rw [g_end.2 (by omega)], rfl⟩
        · skip
          refine v_ldc (-1000005) kc_X3_148 (by decide) dX3_greatestDifference_81 ?_
          refine v_goto 89 dX3_greatestDifference_83 (by decide) ?_
          refine o_iret hQ hlk hrt dX3_greatestDifference_89 ?_
          first | exact ⟨by rw [g_end.1 (by omega)], rfl⟩ | exact ⟨by rw [g_end.2 (by omega)], rfl⟩
      · skip
        exact absurd h11 (by omega)
    | succ dd ih =>
      intro s c4 c5 hd
      refine v_iload_n 3 dX3_greatestDifference_8 rfl rfl ?_
      refine v_bipush dX3_greatestDifference_9 (by decide) ?_
      refine v_icmp_ge 76 dX3_greatestDifference_11 (by decide) (by omega) (by decide) (fun h11 => ?_) (fun h11 => ?_)
      · skip
        exact absurd h11 (by omega)
      · skip
        refine v_iconst dX3_greatestDifference_14 ?_
        refine v_ist4 dX3_greatestDifference_15 rfl ?_
        have lp17 : ∀ (dd2 k : Nat) (c5 : Option AV), k + dd2 = 24 → vO x Q G cX3_greatestDifference RX3 17 [some (aR (some 0)), some (aI (gLo v (24 * s + k))), some (aI (gHi v (24 * s + k))), some (aI (s : Int)), some (aI (k : Int)), c5] [] M := by
          intro dd2
          induction dd2 with
          | zero =>
            intro k c5 hd2
            obtain rfl : k = 24 := by omega
            refine v_iload dX3_greatestDifference_17 rfl ?_
            refine v_bipush dX3_greatestDifference_19 (by decide) ?_
            refine v_icmp_ge 70 dX3_greatestDifference_21 (by decide) (by omega) (by decide) (fun h21 => ?_) (fun h21 => ?_)
            · skip
              refine v_iinc3 dX3_greatestDifference_70 rfl ?_
              refine v_goto 8 dX3_greatestDifference_73 (by decide) ?_
              exact ih (s + 1) _ _ (by omega)
            · skip
              exact absurd h21 (by omega)
          | succ dd2 ih2 =>
            intro k c5 hd2
            have hsb := sSk_bit v (sDrw v) true s 24 (Nat.le_refl _) k (by omega)
            have hsl := sSk_lt v (sDrw v) true s 24 (Nat.le_refl _)
            have hpd := p_div (s := s) (show k < 24 by omega)
            have hgR := gLo_R hI (show 24 * s + k ≤ 192 by omega)
            have hpb := sPitch_b hI (sDrw v) true (show s < 8 by omega) (show k < 24 by omega)
            refine v_iload dX3_greatestDifference_17 rfl ?_
            refine v_bipush dX3_greatestDifference_19 (by decide) ?_
            refine v_icmp_ge 70 dX3_greatestDifference_21 (by decide) (by omega) (by decide) (fun h21 => ?_) (fun h21 => ?_)
            · skip
              exact absurd h21 (by omega)
            · skip
              refine v_aload_n 0 dX3_greatestDifference_24 rfl rfl ?_
              refine v_getR lk_X3_40 rfl (rfl : SH 0 = _) (ow_6 hLX) dX3_greatestDifference_25 ?_
              refine v_getR lk_X3_196 rfl (wi_o wiB_26) (hLX.2.1 26 wiB_26 5 (by decide)) dX3_greatestDifference_28 ?_
              refine v_iload_n 3 dX3_greatestDifference_31 rfl rfl ?_
              refine o_iald (j := s) (u := ((sSk v (sDrw v) true (s) 24 : Nat) : Int)) (wi_a5 wiB_26) (by omega) (by omega) (hW.2.2.2 _ (by omega)) dX3_greatestDifference_32 ?_
              refine v_iload dX3_greatestDifference_33 rfl ?_
              refine oSv2 (c_X3_isIn (Int.natCast_nonneg _) (by omega) (by omega)) k0_X3_isIn ki_X3_isIn ml_X3_84 (vRo_of hxR (by decide) (by decide)) dX3_greatestDifference_35 (Nat.le_of_ble_eq_true rfl) ?_
              refine v_if_eq 64 dX3_greatestDifference_38 (by decide) (bP_R _) (fun h38 => ?_) (fun h38 => ?_)
              · skip
                have g : ¬ sRs v (sDrw v) true ((24 * s + k) / 24) ((24 * s + k) % 24) = 0 := fun q => by rw [hpd.1, hpd.2] at q; exact bP_0.mp h38 (by simpa [bt] using hsb.mpr ⟨by omega, q⟩)
                refine v_iinc4 dX3_greatestDifference_64 rfl ?_
                refine v_goto 17 dX3_greatestDifference_67 (by decide) ?_
                first | (rw [← (g_skip g).1, ← (g_skip g).2, Nat.add_assoc]; exact ih2 (k + 1) _ (by omega)) | (have hq := g_step hI (show 24 * s + k < 192 by omega) g; rw [hpd.1, hpd.2] at hq; rw [hq.1, hq.2, Nat.add_assoc]; exact ih2 (k + 1) _ (by omega))
              · skip
                have g : sRs v (sDrw v) true ((24 * s + k) / 24) ((24 * s + k) % 24) = 0 := by rw [hpd.1, hpd.2]; exact (hsb.mp (by simpa [bt] using bP_n0.mp h38)).2
                refine v_aload_n 0 dX3_greatestDifference_41 rfl rfl ?_
                refine v_iload_n 3 dX3_greatestDifference_42 rfl rfl ?_
                refine v_iload dX3_greatestDifference_43 rfl ?_
                refine oVv2 3 (c_X3_pitch hLX hX hI hW (by omega) (by omega)) k0_X3_pitch ki_X3_pitch ml_X3_231 (rfl : SH 0 = _) (by decide) (vRo_of hxR (by decide) (by decide)) dX3_greatestDifference_45 (Nat.le_of_ble_eq_true rfl) ?_
                refine v_ist5 dX3_greatestDifference_48 rfl ?_
                refine v_iload_n 1 dX3_greatestDifference_50 rfl rfl ?_
                refine v_iload dX3_greatestDifference_51 rfl ?_
                refine oSv2 (c_J9_min hgR.1 (by omega)) k0_J9_min ki_J9_min ml_X3_248 (vRo_of hxR (by decide) (by decide)) dX3_greatestDifference_53 (Nat.le_of_ble_eq_true rfl) ?_
                refine v_ist1 dX3_greatestDifference_56 rfl ?_
                refine v_iload_n 2 dX3_greatestDifference_57 rfl rfl ?_
                refine v_iload dX3_greatestDifference_58 rfl ?_
                refine oSv2 (c_J9_max hgR.2 (by omega)) k0_J9_max ki_J9_max ml_X3_253 (vRo_of hxR (by decide) (by decide)) dX3_greatestDifference_60 (Nat.le_of_ble_eq_true rfl) ?_
                refine v_ist2 dX3_greatestDifference_63 rfl ?_
                refine v_iinc4 dX3_greatestDifference_64 rfl ?_
                refine v_goto 17 dX3_greatestDifference_67 (by decide) ?_
                first | (rw [← (g_skip g).1, ← (g_skip g).2, Nat.add_assoc]; exact ih2 (k + 1) _ (by omega)) | (have hq := g_step hI (show 24 * s + k < 192 by omega) g; rw [hpd.1, hpd.2] at hq; rw [hq.1, hq.2, Nat.add_assoc]; exact ih2 (k + 1) _ (by omega))
        exact lp17 24 0 _ rfl
  exact lp8 8 0 _ _ rfl
set_option maxRecDepth 100000 in
set_option maxHeartbeats 400000 in
theorem c_X3_mistuned {l : Launch} {G : vGG} {M : Mem} {v : Sg} (hLX : LayX M.2) (hX : XS 1 v M.1) (hI : sInv v) : Co l yX3_mistuned cX3_mistuned 1 (some .int) (rmo 6 137) G [aR (some 0)] M (fun r M' => r = some (aI (sMist v)) ∧ fz 26 40 1 0 M M') := by
  refine Co.ofV (plainFor_of_name (by decide)) rfl rfl ?_
  intro x hxl hxR hlk hrt Q hQ
  show vO x Q G cX3_mistuned RX3 0 [some (aR (some 0))] [] M
  refine v_aload_n 0 dX3_mistuned_0 rfl rfl ?_
  refine oVm0 3 (c_X3_readWind hLX hX hI) k0_X3_readWind ki_X3_readWind ml_X3_172 (rfl : SH 0 = _) (by decide) (vRo_of hxR (by decide) (by decide)) dX3_mistuned_1 (Nat.le_of_ble_eq_true rfl) (fun N hN => ?_)
  obtain ⟨hF, hW⟩ := hN
  have hLN := fz_layX hF hLX
  have hXN := hX.keep (fun i h1 h2 => hF.2 i (by omega) (by omega))
  have hFq : fz 26 40 1 0 M N := ⟨hF.1, fun i h1 h2 => hF.2 i (by omega) (by omega)⟩
  refine v_aload_n 0 dX3_mistuned_4 rfl rfl ?_
  refine oVv0 3 (c_X3_greatestDifference hLN hXN hI hW) k0_X3_greatestDifference ki_X3_greatestDifference ml_X3_243 (rfl : SH 0 = _) (by decide) (vRo_of hxR (by decide) (by decide)) dX3_mistuned_5 (Nat.le_of_ble_eq_true rfl) ?_
  refine o_iret hQ hlk hrt dX3_mistuned_8 ?_
  exact ⟨rfl, hFq⟩
