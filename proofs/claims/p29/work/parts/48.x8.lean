/-! ===== the class: tellings ===== -/
set_option maxRecDepth 100000 in
set_option maxHeartbeats 400000 in
theorem c_X3_reasonTold {l : Launch} {G : vGG} {M : Mem} {v : Sg} (hLX : LayX M.2) (hX : XS 1 v M.1) (hI : sInv v) (hW : WL 26 v (sDrw v) true M.1) {s k : Nat} (hs : s < 8) (hk : k < 24) : Cv l yX3_reasonTold cX3_reasonTold 4 (some .int) (rmo 3 67) G [aR (some 0), aI (s : Int), aI (k : Int)] M (some (aI (sRs v (sDrw v) true s k))) M := by
  refine Co.ofV (plainFor_of_name (by decide)) rfl rfl ?_
  intro x hxl hxR hlk hrt Q hQ
  have hmn := sMan_lt hI hs
  have hdl := sDrw_lt hI
  have hol := sOpn_lt hI (sDrw v) true hs
  have hpb := sPr_b hI (sDrw v) true hmn.1
  have hst1 := iv_st hI hs
  have hse := iv_set hI
  have hab := sAs_b hI (sDrw v) true (p := 24 * s + k) (by omega)
  have hlb := sLf_b hI (sDrw v) true (24 * s + k) (by omega)
  have hbe := iv_bel hI
  have hgt : sGt v (sDrw v) true (24 * s + k) ≤ 45 ∧ 0 ≤ sGt v (sDrw v) true (24 * s + k) := by unfold sGt; omega
  show vO x Q G cX3_reasonTold RX3 0 [some (aR (some 0)), some (aI (s : Int)), some (aI (k : Int)), none] [] M
  refine v_aload_n 0 dX3_reasonTold_0 rfl rfl ?_
  refine v_getR lk_X3_10 rfl (rfl : SH 0 = _) (ow_0 hLX) dX3_reasonTold_1 ?_
  refine o_getI (u := ((sDrw v : Nat) : Int)) lk_X3_80 rfl (st_o stB_1) (xs_drw hX) dX3_reasonTold_4 ?_
  refine v_iload_n 1 dX3_reasonTold_7 rfl rfl ?_
  refine oSv2 (c_X3_isIn (Int.natCast_nonneg _) (by omega) (by omega)) k0_X3_isIn ki_X3_isIn ml_X3_84 (vRo_of hxR (by decide) (by decide)) dX3_reasonTold_8 (Nat.le_of_ble_eq_true rfl) ?_
  refine v_if_ne 16 dX3_reasonTold_11 (by decide) (bP_R _) (fun h11 => ?_) (fun h11 => ?_)
  · skip
    have g1 : (sDrw v).testBit s = true := by simpa [bt] using bP_n0.mp h11
    refine v_aload_n 0 dX3_reasonTold_16 rfl rfl ?_
    refine v_getR lk_X3_40 rfl (rfl : SH 0 = _) (ow_6 hLX) dX3_reasonTold_17 ?_
    refine v_getR lk_X3_193 rfl (wi_o wiB_26) (hLX.2.1 26 wiB_26 0 (by decide)) dX3_reasonTold_20 ?_
    refine v_iload_n 1 dX3_reasonTold_23 rfl rfl ?_
    refine o_iald (j := s) (u := ((sOpn v (sDrw v) true (s) : Nat) : Int)) (wi_a0 wiB_26) (by omega) (by omega) (hW.1.1 _ (by omega)) dX3_reasonTold_24 ?_
    refine v_iload_n 2 dX3_reasonTold_25 rfl rfl ?_
    refine oSv2 (c_X3_isIn (Int.natCast_nonneg _) (by omega) (by omega)) k0_X3_isIn ki_X3_isIn ml_X3_84 (vRo_of hxR (by decide) (by decide)) dX3_reasonTold_26 (Nat.le_of_ble_eq_true rfl) ?_
    refine v_if_ne 34 dX3_reasonTold_29 (by decide) (bP_R _) (fun h29 => ?_) (fun h29 => ?_)
    · skip
      have g2 : (sOpn v (sDrw v) true s).testBit k = true := by simpa [bt] using bP_n0.mp h29
      refine v_aload_n 0 dX3_reasonTold_34 rfl rfl ?_
      refine v_getR lk_X3_40 rfl (rfl : SH 0 = _) (ow_6 hLX) dX3_reasonTold_35 ?_
      refine v_getR lk_X3_205 rfl (wi_o wiB_26) (hLX.2.1 26 wiB_26 2 (by decide)) dX3_reasonTold_38 ?_
      refine v_aload_n 0 dX3_reasonTold_41 rfl rfl ?_
      refine v_getR lk_X3_10 rfl (rfl : SH 0 = _) (ow_0 hLX) dX3_reasonTold_42 ?_
      refine v_iload_n 1 dX3_reasonTold_45 rfl rfl ?_
      refine oVv1 0 (c_X0_manualOf stB_1 hLX hX hI hs) k0_X0_manualOf ki_X0_manualOf ml_X3_237 (st_o stB_1) (by decide) (vRo_of hxR (by decide) (by decide)) dX3_reasonTold_46 (Nat.le_of_ble_eq_true rfl) ?_
      refine o_iald (j := sMan v s) (u := (sPr v (sDrw v) true (sMan v s))) (wi_a2 wiB_26) (by omega) (by omega) (hW.2.1 _ (by omega)) dX3_reasonTold_49 ?_
      refine v_aload_n 0 dX3_reasonTold_50 rfl rfl ?_
      refine v_getR lk_X3_10 rfl (rfl : SH 0 = _) (ow_0 hLX) dX3_reasonTold_51 ?_
      refine v_getR lk_X3_70 rfl (st_o stB_1) (hLX.1 1 stB_1 2 (by decide)) dX3_reasonTold_54 ?_
      refine v_iload_n 1 dX3_reasonTold_57 rfl rfl ?_
      refine o_iald (j := s) (u := v (24 + 5 * (s) + 2)) (st_a2 stB_1) (by omega) (by omega) (xs_lea hX (by omega)) dX3_reasonTold_58 ?_
      refine v_icmp_ge 64 dX3_reasonTold_59 (by decide) (by omega) (by omega) (fun h59 => ?_) (fun h59 => ?_)
      · skip
        refine v_aload_n 0 dX3_reasonTold_64 rfl rfl ?_
        refine v_getR lk_X3_40 rfl (rfl : SH 0 = _) (ow_6 hLX) dX3_reasonTold_65 ?_
        refine v_aload_n 0 dX3_reasonTold_68 rfl rfl ?_
        refine v_getR lk_X3_10 rfl (rfl : SH 0 = _) (ow_0 hLX) dX3_reasonTold_69 ?_
        refine v_iload_n 1 dX3_reasonTold_72 rfl rfl ?_
        refine v_iload_n 2 dX3_reasonTold_73 rfl rfl ?_
        refine oVv3 2 (c_X2_asks stB_1 hLX hX hI wiB_26 hW.2.1 hs hk) k0_X2_asks ki_X2_asks ml_X3_224 (wi_o wiB_26) (by decide) (vRo_of hxR (by decide) (by decide)) dX3_reasonTold_74 (Nat.le_of_ble_eq_true rfl) ?_
        refine o_eqI (u := sAs v (sDrw v) true (24 * s + k)) (sAs_o hk g2).symm ?_
        refine v_ist3 dX3_reasonTold_77 rfl ?_
        refine v_aload_n 0 dX3_reasonTold_78 rfl rfl ?_
        refine v_getR lk_X3_40 rfl (rfl : SH 0 = _) (ow_6 hLX) dX3_reasonTold_79 ?_
        refine v_getR lk_X3_228 rfl (wi_o wiB_26) (hLX.2.1 26 wiB_26 4 (by decide)) dX3_reasonTold_82 ?_
        refine v_iload_n 1 dX3_reasonTold_85 rfl rfl ?_
        refine v_iload_n 2 dX3_reasonTold_86 rfl rfl ?_
        refine oSv2 (c_X3_pipeIndex) k0_X3_pipeIndex ki_X3_pipeIndex ml_X3_76 (vRo_of hxR (by decide) (by decide)) dX3_reasonTold_87 (Nat.le_of_ble_eq_true rfl) ?_
        refine o_iald (j := 24 * s + k) (u := (sGt v (sDrw v) true (24 * s + k))) (wi_a4 wiB_26) (by omega) (by omega) (hW.2.2.1 s k (by omega) (by omega) g2) dX3_reasonTold_90 ?_
        refine v_iload_n 3 dX3_reasonTold_91 rfl rfl ?_
        refine v_icmp_ge 97 dX3_reasonTold_92 (by decide) (by omega) (by omega) (fun h92 => ?_) (fun h92 => ?_)
        · skip
          refine v_iload_n 3 dX3_reasonTold_97 rfl rfl ?_
          refine v_if_ne 105 dX3_reasonTold_98 (by decide) (by omega) (fun h98 => ?_) (fun h98 => ?_)
          · skip
            refine v_iconst dX3_reasonTold_105 ?_
            refine o_iret hQ hlk hrt dX3_reasonTold_106 ?_
            first | exact ⟨by rw [rr_5 g1 g2 h59 h92 h98], rfl⟩ | exact ⟨by rw [rr_0 g1 g2 h59 h92 h98], rfl⟩
          · skip
            refine v_iconst dX3_reasonTold_101 ?_
            refine v_goto 106 dX3_reasonTold_102 (by decide) ?_
            refine o_iret hQ hlk hrt dX3_reasonTold_106 ?_
            first | exact ⟨by rw [rr_5 g1 g2 h59 h92 h98], rfl⟩ | exact ⟨by rw [rr_0 g1 g2 h59 h92 h98], rfl⟩
        · skip
          refine v_iconst dX3_reasonTold_95 ?_
          refine o_iret hQ hlk hrt dX3_reasonTold_96 ?_
          exact ⟨by rw [rr_4 g1 g2 h59 h92], rfl⟩
      · skip
        refine v_iconst dX3_reasonTold_62 ?_
        refine o_iret hQ hlk hrt dX3_reasonTold_63 ?_
        exact ⟨by rw [rr_3 g1 g2 h59], rfl⟩
    · skip
      have g2 : ¬ (sOpn v (sDrw v) true s).testBit k = true := by simpa [bt] using bP_0.mp h29
      refine v_iconst dX3_reasonTold_32 ?_
      refine o_iret hQ hlk hrt dX3_reasonTold_33 ?_
      exact ⟨by rw [rr_2 g1 g2], rfl⟩
  · skip
    have g1 : ¬ (sDrw v).testBit s = true := by simpa [bt] using bP_0.mp h11
    refine v_iconst dX3_reasonTold_14 ?_
    refine o_iret hQ hlk hrt dX3_reasonTold_15 ?_
    exact ⟨by rw [rr_1 g1], rfl⟩
set_option maxRecDepth 100000 in
set_option maxHeartbeats 400000 in
theorem c_X3_pipeTold {l : Launch} {G : vGG} {M : Mem} {v : Sg} (hLX : LayX M.2) (hX : XS 1 v M.1) (hI : sInv v) (hW : WL 26 v (sDrw v) true M.1) {s k w : Nat} (hs : s < 8) (hk : k < 24) (hw5 : w < 5) : Cv l yX3_pipeTold cX3_pipeTold 4 (some .int) (rmo 4 87) G [aR (some 0), aI (s : Int), aI (k : Int), aI (w : Int)] M (some (aI (sPi v s k w))) M := by
  refine Co.ofV (plainFor_of_name (by decide)) rfl rfl ?_
  intro x hxl hxR hlk hrt Q hQ
  have hol := sOpn_lt hI (sDrw v) true hs
  show vO x Q G cX3_pipeTold RX3 0 [some (aR (some 0)), some (aI (s : Int)), some (aI (k : Int)), some (aI (w : Int))] [] M
  refine v_iload_n 3 dX3_pipeTold_0 rfl rfl ?_
  refine v_if_ne 14 dX3_pipeTold_1 (by decide) (by omega) (fun h1 => ?_) (fun h1 => ?_)
  · skip
    refine v_iload_n 3 dX3_pipeTold_14 rfl rfl ?_
    refine v_iconst dX3_pipeTold_15 ?_
    refine v_icmp_ne 33 dX3_pipeTold_16 (by decide) (by omega) (by decide) (fun h16 => ?_) (fun h16 => ?_)
    · skip
      refine v_aload_n 0 dX3_pipeTold_33 rfl rfl ?_
      refine v_getR lk_X3_40 rfl (rfl : SH 0 = _) (ow_6 hLX) dX3_pipeTold_34 ?_
      refine v_getR lk_X3_193 rfl (wi_o wiB_26) (hLX.2.1 26 wiB_26 0 (by decide)) dX3_pipeTold_37 ?_
      refine v_iload_n 1 dX3_pipeTold_40 rfl rfl ?_
      refine o_iald (j := s) (u := ((sOpn v (sDrw v) true (s) : Nat) : Int)) (wi_a0 wiB_26) (by omega) (by omega) (hW.1.1 _ (by omega)) dX3_pipeTold_41 ?_
      refine v_iload_n 2 dX3_pipeTold_42 rfl rfl ?_
      refine oSv2 (c_X3_isIn (Int.natCast_nonneg _) (by omega) (by omega)) k0_X3_isIn ki_X3_isIn ml_X3_84 (vRo_of hxR (by decide) (by decide)) dX3_pipeTold_43 (Nat.le_of_ble_eq_true rfl) ?_
      refine v_if_ne 52 dX3_pipeTold_46 (by decide) (bP_R _) (fun h46 => ?_) (fun h46 => ?_)
      · skip
        have g2 : (sOpn v (sDrw v) true s).testBit k = true := by simpa [bt] using bP_n0.mp h46
        refine v_iload_n 3 dX3_pipeTold_52 rfl rfl ?_
        refine v_iconst dX3_pipeTold_53 ?_
        refine v_icmp_ne 71 dX3_pipeTold_54 (by decide) (by omega) (by decide) (fun h54 => ?_) (fun h54 => ?_)
        · skip
          refine v_iload_n 3 dX3_pipeTold_71 rfl rfl ?_
          refine v_iconst dX3_pipeTold_72 ?_
          refine v_icmp_ne 92 dX3_pipeTold_73 (by decide) (by omega) (by decide) (fun h73 => ?_) (fun h73 => ?_)
          · skip
            refine v_aload_n 0 dX3_pipeTold_92 rfl rfl ?_
            refine v_iload_n 1 dX3_pipeTold_93 rfl rfl ?_
            refine v_iload_n 2 dX3_pipeTold_94 rfl rfl ?_
            refine oVv2 3 (c_X3_pitch hLX hX hI hW hs hk) k0_X3_pitch ki_X3_pitch ml_X3_231 (rfl : SH 0 = _) (by decide) (vRo_of hxR (by decide) (by decide)) dX3_pipeTold_95 (Nat.le_of_ble_eq_true rfl) ?_
            refine o_iret hQ hlk hrt dX3_pipeTold_98 ?_
            first | exact ⟨by rw [sPi, if_neg (by omega), if_neg (by omega)]; rw [if_neg (by simpa using g2), if_neg (by omega), if_pos (by omega)], rfl⟩ | exact ⟨by rw [sPi, if_neg (by omega), if_neg (by omega)]; rw [if_neg (by simpa using g2), if_neg (by omega), if_neg (by omega)], rfl⟩
          · skip
            refine v_aload_n 0 dX3_pipeTold_76 rfl rfl ?_
            refine v_getR lk_X3_40 rfl (rfl : SH 0 = _) (ow_6 hLX) dX3_pipeTold_77 ?_
            refine v_getR lk_X3_228 rfl (wi_o wiB_26) (hLX.2.1 26 wiB_26 4 (by decide)) dX3_pipeTold_80 ?_
            refine v_iload_n 1 dX3_pipeTold_83 rfl rfl ?_
            refine v_iload_n 2 dX3_pipeTold_84 rfl rfl ?_
            refine oSv2 (c_X3_pipeIndex) k0_X3_pipeIndex ki_X3_pipeIndex ml_X3_76 (vRo_of hxR (by decide) (by decide)) dX3_pipeTold_85 (Nat.le_of_ble_eq_true rfl) ?_
            refine o_iald (j := 24 * s + k) (u := (sGt v (sDrw v) true (24 * s + k))) (wi_a4 wiB_26) (by omega) (by omega) (hW.2.2.1 s k (by omega) (by omega) g2) dX3_pipeTold_88 ?_
            refine v_goto 98 dX3_pipeTold_89 (by decide) ?_
            refine o_iret hQ hlk hrt dX3_pipeTold_98 ?_
            first | exact ⟨by rw [sPi, if_neg (by omega), if_neg (by omega)]; rw [if_neg (by simpa using g2), if_neg (by omega), if_pos (by omega)], rfl⟩ | exact ⟨by rw [sPi, if_neg (by omega), if_neg (by omega)]; rw [if_neg (by simpa using g2), if_neg (by omega), if_neg (by omega)], rfl⟩
        · skip
          refine v_aload_n 0 dX3_pipeTold_57 rfl rfl ?_
          refine v_getR lk_X3_40 rfl (rfl : SH 0 = _) (ow_6 hLX) dX3_pipeTold_58 ?_
          refine v_aload_n 0 dX3_pipeTold_61 rfl rfl ?_
          refine v_getR lk_X3_10 rfl (rfl : SH 0 = _) (ow_0 hLX) dX3_pipeTold_62 ?_
          refine v_iload_n 1 dX3_pipeTold_65 rfl rfl ?_
          refine v_iload_n 2 dX3_pipeTold_66 rfl rfl ?_
          refine oVv3 2 (c_X2_asks stB_1 hLX hX hI wiB_26 hW.2.1 hs hk) k0_X2_asks ki_X2_asks ml_X3_224 (wi_o wiB_26) (by decide) (vRo_of hxR (by decide) (by decide)) dX3_pipeTold_67 (Nat.le_of_ble_eq_true rfl) ?_
          refine o_iret hQ hlk hrt dX3_pipeTold_70 ?_
          exact ⟨by rw [sPi, if_neg (by omega), if_neg (by omega)]; rw [if_neg (by simpa using g2), if_pos (by omega), sAs_o hk g2], rfl⟩
      · skip
        have g2 : ¬ (sOpn v (sDrw v) true s).testBit k = true := by simpa [bt] using bP_0.mp h46
        refine v_ldc (-1000005) kc_X3_148 (by decide) dX3_pipeTold_49 ?_
        refine o_iret hQ hlk hrt dX3_pipeTold_51 ?_
        exact ⟨by rw [sPi, if_neg (by omega), if_neg (by omega)]; rw [if_pos (by simpa using g2)], rfl⟩
    · skip
      refine v_aload_n 0 dX3_pipeTold_19 rfl rfl ?_
      refine v_getR lk_X3_10 rfl (rfl : SH 0 = _) (ow_0 hLX) dX3_pipeTold_20 ?_
      refine v_getR lk_X3_73 rfl (st_o stB_1) (hLX.1 1 stB_1 5 (by decide)) dX3_pipeTold_23 ?_
      refine v_iload_n 1 dX3_pipeTold_26 rfl rfl ?_
      refine v_iload_n 2 dX3_pipeTold_27 rfl rfl ?_
      refine oSv2 (c_X3_pipeIndex) k0_X3_pipeIndex ki_X3_pipeIndex ml_X3_76 (vRo_of hxR (by decide) (by decide)) dX3_pipeTold_28 (Nat.le_of_ble_eq_true rfl) ?_
      refine o_iald (j := 24 * s + k) (u := v (64 + (24 * s + k))) (st_a5 stB_1) (by omega) (by omega) (xs_off hX (by omega)) dX3_pipeTold_31 ?_
      refine o_iret hQ hlk hrt dX3_pipeTold_32 ?_
      exact ⟨by rw [sPi, if_neg (by omega), if_pos (by omega)], rfl⟩
  · skip
    refine v_aload_n 0 dX3_pipeTold_4 rfl rfl ?_
    refine v_getR lk_X3_10 rfl (rfl : SH 0 = _) (ow_0 hLX) dX3_pipeTold_5 ?_
    refine v_iload_n 1 dX3_pipeTold_8 rfl rfl ?_
    refine v_iload_n 2 dX3_pipeTold_9 rfl rfl ?_
    refine oVv2 0 (c_X0_need stB_1 hLX hX hI hs hk) k0_X0_need ki_X0_need ml_X3_221 (st_o stB_1) (by decide) (vRo_of hxR (by decide) (by decide)) dX3_pipeTold_10 (Nat.le_of_ble_eq_true rfl) ?_
    refine o_iret hQ hlk hrt dX3_pipeTold_13 ?_
    exact ⟨by rw [sPi, if_pos (by omega)], rfl⟩
set_option maxRecDepth 100000 in
set_option maxHeartbeats 400000 in
theorem c_X3_chestTold {l : Launch} {G : vGG} {M : Mem} {v : Sg} (hLX : LayX M.2) (hX : XS 1 v M.1) (hI : sInv v) (hW : WL 26 v (sDrw v) true M.1) {m : Nat} {w : Int} (hm : m < 2) (hwR : R32 w) : Cv l yX3_chestTold cX3_chestTold 3 (some .int) (rmo 1 22) G [aR (some 0), aI (m : Int), aI w] M (some (aI (if 0 ≤ w ∧ w ≤ 2 then sCh v m w.toNat else -1000002))) M := by
  refine Co.ofV (plainFor_of_name (by decide)) rfl rfl ?_
  intro x hxl hxR hlk hrt Q hQ
  show vO x Q G cX3_chestTold RX3 0 [some (aR (some 0)), some (aI (m : Int)), some (aI w)] [] M
  refine v_iload_n 2 dX3_chestTold_0 rfl rfl ?_
  rcases (show w = 0 ∨ w = 1 ∨ w = 2 ∨ ¬ (0 ≤ w ∧ w ≤ 2) by omega) with rfl | rfl | rfl | hw
  · skip
    refine v_tableIn 28 dX3_chestTold_1 (by decide) (by decide) (by decide) rfl (by decide) ?_
    refine v_aload_n 0 dX3_chestTold_28 rfl rfl ?_
    refine v_getR lk_X3_40 rfl (rfl : SH 0 = _) (ow_6 hLX) dX3_chestTold_29 ?_
    refine v_getR lk_X3_205 rfl (wi_o wiB_26) (hLX.2.1 26 wiB_26 2 (by decide)) dX3_chestTold_32 ?_
    refine v_iload_n 1 dX3_chestTold_35 rfl rfl ?_
    refine o_iald (j := m) (u := (sPr v (sDrw v) true (m))) (wi_a2 wiB_26) (by omega) (by omega) (hW.2.1 _ (by omega)) dX3_chestTold_36 ?_
    refine o_iret hQ hlk hrt dX3_chestTold_37 ?_
    exact ⟨rfl, rfl⟩
  · skip
    refine v_tableIn 38 dX3_chestTold_1 (by decide) (by decide) (by decide) rfl (by decide) ?_
    refine v_aload_n 0 dX3_chestTold_38 rfl rfl ?_
    refine v_getR lk_X3_40 rfl (rfl : SH 0 = _) (ow_6 hLX) dX3_chestTold_39 ?_
    refine v_getR lk_X3_208 rfl (wi_o wiB_26) (hLX.2.1 26 wiB_26 1 (by decide)) dX3_chestTold_42 ?_
    refine v_iload_n 1 dX3_chestTold_45 rfl rfl ?_
    refine o_iald (j := m) (u := (sNs v (sDrw v) true (m) 192)) (wi_a1 wiB_26) (by omega) (by omega) (hW.1.2 _ (by omega)) dX3_chestTold_46 ?_
    refine o_iret hQ hlk hrt dX3_chestTold_47 ?_
    exact ⟨rfl, rfl⟩
  · skip
    refine v_tableIn 48 dX3_chestTold_1 (by decide) (by decide) (by decide) rfl (by decide) ?_
    refine v_aload_n 0 dX3_chestTold_48 rfl rfl ?_
    refine v_getR lk_X3_10 rfl (rfl : SH 0 = _) (ow_0 hLX) dX3_chestTold_49 ?_
    refine v_iload_n 1 dX3_chestTold_52 rfl rfl ?_
    refine oVv1 0 (c_X0_actingKeys stB_1 hLX hX hI hm) k0_X0_actingKeys ki_X0_actingKeys ml_X3_211 (st_o stB_1) (by decide) (vRo_of hxR (by decide) (by decide)) dX3_chestTold_53 (Nat.le_of_ble_eq_true rfl) ?_
    refine o_iret hQ hlk hrt dX3_chestTold_56 ?_
    exact ⟨rfl, rfl⟩
  · skip
    refine v_tableOut 57 dX3_chestTold_1 (by omega) (by omega) (by decide) ?_
    refine v_ldc (-1000002) kc_X3_59 (by decide) dX3_chestTold_57 ?_
    refine o_iret hQ hlk hrt dX3_chestTold_59 ?_
    exact ⟨by rw [if_neg hw], rfl⟩
set_option maxRecDepth 100000 in
set_option maxHeartbeats 400000 in
theorem c_X3_numberTold {l : Launch} {G : vGG} {M : Mem} {v : Sg} (hLX : LayX M.2) (hX : XS 1 v M.1) (hI : sInv v) (hW : WL 26 v (sDrw v) true M.1) {w : Nat} (hw : w < 10) : Cv l yX3_numberTold cX3_numberTold 2 (some .int) (rmo 3 63) G [aR (some 0), aI (w : Int)] M (some (aI (sTell v w))) M := by
  refine Co.ofV (plainFor_of_name (by decide)) rfl rfl ?_
  intro x hxl hxR hlk hrt Q hQ
  show vO x Q G cX3_numberTold RX3 0 [some (aR (some 0)), some (aI (w : Int))] [] M
  refine v_iload_n 1 dX3_numberTold_0 rfl rfl ?_
  rcases (show w = 0 ∨ w = 1 ∨ w = 2 ∨ w = 3 ∨ w = 4 ∨ w = 5 ∨ w = 6 ∨ w = 7 ∨ w = 8 ∨ w = 9 by omega) with rfl | rfl | rfl | rfl | rfl | rfl | rfl | rfl | rfl | rfl
  · skip
    refine v_tableIn 52 dX3_numberTold_1 (by decide) (by decide) (by decide) rfl (by decide) ?_
    refine v_aload_n 0 dX3_numberTold_52 rfl rfl ?_
    refine v_getR lk_X3_10 rfl (rfl : SH 0 = _) (ow_0 hLX) dX3_numberTold_53 ?_
    refine o_getI (u := (v 0)) lk_X3_135 rfl (st_o stB_1) (xs_vol hX) dX3_numberTold_56 ?_
    refine o_iret hQ hlk hrt dX3_numberTold_59 ?_
    exact ⟨by simp [sTell], rfl⟩
  · skip
    refine v_tableIn 60 dX3_numberTold_1 (by decide) (by decide) (by decide) rfl (by decide) ?_
    refine v_aload_n 0 dX3_numberTold_60 rfl rfl ?_
    refine v_getR lk_X3_10 rfl (rfl : SH 0 = _) (ow_0 hLX) dX3_numberTold_61 ?_
    refine oVv0 0 (c_X0_reservoirPressure stB_1 hLX hX hI) k0_X0_reservoirPressure ki_X0_reservoirPressure ml_X3_178 (st_o stB_1) (by decide) (vRo_of hxR (by decide) (by decide)) dX3_numberTold_64 (Nat.le_of_ble_eq_true rfl) ?_
    refine o_iret hQ hlk hrt dX3_numberTold_67 ?_
    exact ⟨by simp [sTell], rfl⟩
  · skip
    refine v_tableIn 68 dX3_numberTold_1 (by decide) (by decide) (by decide) rfl (by decide) ?_
    refine v_aload_n 0 dX3_numberTold_68 rfl rfl ?_
    refine v_getR lk_X3_10 rfl (rfl : SH 0 = _) (ow_0 hLX) dX3_numberTold_69 ?_
    refine o_getI (u := (v 13)) lk_X3_181 rfl (st_o stB_1) (xs_tim hX) dX3_numberTold_72 ?_
    refine o_iret hQ hlk hrt dX3_numberTold_75 ?_
    exact ⟨by simp [sTell], rfl⟩
  · skip
    refine v_tableIn 76 dX3_numberTold_1 (by decide) (by decide) (by decide) rfl (by decide) ?_
    refine v_aload_n 0 dX3_numberTold_76 rfl rfl ?_
    refine v_getR lk_X3_10 rfl (rfl : SH 0 = _) (ow_0 hLX) dX3_numberTold_77 ?_
    refine o_getI (u := (v 14)) lk_X3_184 rfl (st_o stB_1) (xs_mad hX) dX3_numberTold_80 ?_
    refine o_iret hQ hlk hrt dX3_numberTold_83 ?_
    exact ⟨by simp [sTell], rfl⟩
  · skip
    refine v_tableIn 84 dX3_numberTold_1 (by decide) (by decide) (by decide) rfl (by decide) ?_
    refine v_aload_n 0 dX3_numberTold_84 rfl rfl ?_
    refine v_getR lk_X3_10 rfl (rfl : SH 0 = _) (ow_0 hLX) dX3_numberTold_85 ?_
    refine v_getR lk_X3_88 rfl (st_o stB_1) (hLX.1 1 stB_1 3 (by decide)) dX3_numberTold_88 ?_
    refine oSv1 (c_X3_sumOf (i := 1 + 1 + 3) (z := fun s => v (24 + 5 * s + 4)) (st_a3 stB_1) (fun s hs => xs_got hX hs)) k0_X3_sumOf ki_X3_sumOf ml_X3_187 (vRo_of hxR (by decide) (by decide)) dX3_numberTold_91 (Nat.le_of_ble_eq_true rfl) ?_
    refine o_iret hQ hlk hrt dX3_numberTold_94 ?_
    exact ⟨by rw [← sGo_sum, ← xs_sum hX]; rfl, rfl⟩
  · skip
    refine v_tableIn 95 dX3_numberTold_1 (by decide) (by decide) (by decide) rfl (by decide) ?_
    refine v_aload_n 0 dX3_numberTold_95 rfl rfl ?_
    refine v_getR lk_X3_10 rfl (rfl : SH 0 = _) (ow_0 hLX) dX3_numberTold_96 ?_
    refine o_getI (u := (v 16)) lk_X3_190 rfl (st_o stB_1) (xs_spi hX) dX3_numberTold_99 ?_
    refine o_iret hQ hlk hrt dX3_numberTold_102 ?_
    exact ⟨by simp [sTell], rfl⟩
  · skip
    refine v_tableIn 103 dX3_numberTold_1 (by decide) (by decide) (by decide) rfl (by decide) ?_
    refine v_aload_n 0 dX3_numberTold_103 rfl rfl ?_
    refine v_getR lk_X3_40 rfl (rfl : SH 0 = _) (ow_6 hLX) dX3_numberTold_104 ?_
    refine v_getR lk_X3_193 rfl (wi_o wiB_26) (hLX.2.1 26 wiB_26 0 (by decide)) dX3_numberTold_107 ?_
    refine oSv1 (c_X3_countOfAll (i := 26 + 1 + 0) (z := fun s => sOpn v (sDrw v) true s) (wi_a0 wiB_26) (fun s hs => ⟨hW.1.1 s hs, sOpn_lt hI (sDrw v) true hs⟩)) k0_X3_countOfAll ki_X3_countOfAll ml_X3_106 (vRo_of hxR (by decide) (by decide)) dX3_numberTold_110 (Nat.le_of_ble_eq_true rfl) ?_
    refine o_iret hQ hlk hrt dX3_numberTold_113 ?_
    exact ⟨by rw [← sOm_sum]; rfl, rfl⟩
  · skip
    refine v_tableIn 114 dX3_numberTold_1 (by decide) (by decide) (by decide) rfl (by decide) ?_
    refine v_aload_n 0 dX3_numberTold_114 rfl rfl ?_
    refine v_getR lk_X3_40 rfl (rfl : SH 0 = _) (ow_6 hLX) dX3_numberTold_115 ?_
    refine v_getR lk_X3_196 rfl (wi_o wiB_26) (hLX.2.1 26 wiB_26 5 (by decide)) dX3_numberTold_118 ?_
    refine oSv1 (c_X3_countOfAll (i := 26 + 1 + 5) (z := fun s => sSk v (sDrw v) true s 24) (wi_a5 wiB_26) (fun s hs => ⟨hW.2.2.2 s hs, sSk_lt v (sDrw v) true s 24 (Nat.le_refl _)⟩)) k0_X3_countOfAll ki_X3_countOfAll ml_X3_106 (vRo_of hxR (by decide) (by decide)) dX3_numberTold_121 (Nat.le_of_ble_eq_true rfl) ?_
    refine o_iret hQ hlk hrt dX3_numberTold_124 ?_
    exact ⟨by rw [← sSp_sum]; rfl, rfl⟩
  · skip
    refine v_tableIn 125 dX3_numberTold_1 (by decide) (by decide) (by decide) rfl (by decide) ?_
    refine v_aload_n 0 dX3_numberTold_125 rfl rfl ?_
    refine v_getR lk_X3_10 rfl (rfl : SH 0 = _) (ow_0 hLX) dX3_numberTold_126 ?_
    refine v_getR lk_X3_103 rfl (st_o stB_1) (hLX.1 1 stB_1 4 (by decide)) dX3_numberTold_129 ?_
    refine oSv1 (c_X3_countOfAll (i := 1 + 1 + 4) (z := fun s => (v (256 + s)).toNat) (st_a4 stB_1) (fun s hs => by have := (iv_st hI hs).2.2.2.2; exact ⟨(xs_cip hX hs).trans (by omega), by omega⟩)) k0_X3_countOfAll ki_X3_countOfAll ml_X3_106 (vRo_of hxR (by decide) (by decide)) dX3_numberTold_132 (Nat.le_of_ble_eq_true rfl) ?_
    refine o_iret hQ hlk hrt dX3_numberTold_135 ?_
    exact ⟨by rw [← sCi_sum]; rfl, rfl⟩
  · skip
    refine v_tableOut 136 dX3_numberTold_1 (by decide) (by omega) (by decide) ?_
    refine v_aload_n 0 dX3_numberTold_136 rfl rfl ?_
    refine v_getR lk_X3_10 rfl (rfl : SH 0 = _) (ow_0 hLX) dX3_numberTold_137 ?_
    refine o_getI (u := (v 20)) lk_X3_199 rfl (st_o stB_1) (xs_sl hX) dX3_numberTold_140 ?_
    refine o_iret hQ hlk hrt dX3_numberTold_143 ?_
    exact ⟨by simp [sTell], rfl⟩
