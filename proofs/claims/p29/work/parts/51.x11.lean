/-! ===== the class: lowest, checksum ===== -/
set_option maxRecDepth 100000 in
set_option maxHeartbeats 400000 in
theorem c_X3_lowest {l : Launch} {G : vGG} {M : Mem} {v : Sg} (hLX : LayX M.2) (hX : XS 1 v M.1) (hI : sInv v) {a : Int} (ha : R32 a) : Co l yX3_lowest cX3_lowest 2 (some .int) (rmo 5 116) G [aR (some 0), aI a] M (fun r M' => r = some (aI (aLow v a)) ∧ fz 11 21 33 40 M M') := by
  refine Co.ofV (plainFor_of_name (by decide)) rfl rfl ?_
  intro x hxl hxR hlk hrt Q hQ
  show vO x Q G cX3_lowest RX3 0 [some (aR (some 0)), some (aI a)] [] M
  refine v_iload_n 1 dX3_lowest_0 rfl rfl ?_
  refine v_iconst dX3_lowest_1 ?_
  refine v_sipush dX3_lowest_2 (by decide) ?_
  refine oSv3 (c_X3_isWithin (by omega) (by decide) (by decide)) k0_X3_isWithin ki_X3_isWithin ml_X3_55 (vRo_of hxR (by decide) (by decide)) dX3_lowest_5 (Nat.le_of_ble_eq_true rfl) ?_
  refine v_if_ne 14 dX3_lowest_8 (by decide) (bP_R _) (fun h8 => ?_) (fun h8 => ?_)
  · skip
    have ga := bP_n0.mp h8
    obtain ⟨s, rfl⟩ : ∃ s : Nat, a = ((s : Nat) : Int) := ⟨(a).toNat, by omega⟩
    refine v_aload_n 0 dX3_lowest_14 rfl rfl ?_
    refine v_getR lk_X3_10 rfl (rfl : SH 0 = _) (ow_0 hLX) dX3_lowest_15 ?_
    refine v_aload_n 0 dX3_lowest_18 rfl rfl ?_
    refine v_getR lk_X3_16 rfl (rfl : SH 0 = _) (ow_1 hLX) dX3_lowest_19 ?_
    refine oSm2 (c_X3_copyState stB_1 stB_11 (by decide) hLX hX hI) k0_X3_copyState ki_X3_copyState ml_X3_275 (vRo_of hxR (by decide) (by decide)) dX3_lowest_22 (Nat.le_of_ble_eq_true rfl) (fun N hN => ?_)
    obtain ⟨hF, hX2⟩ := hN
    have hLN := fz_layX hF hLX
    refine v_aload_n 0 dX3_lowest_25 rfl rfl ?_
    refine v_aload_n 0 dX3_lowest_26 rfl rfl ?_
    refine v_getR lk_X3_16 rfl (rfl : SH 0 = _) (ow_1 hLN) dX3_lowest_27 ?_
    refine v_iload_n 1 dX3_lowest_30 rfl rfl ?_
    refine oVq2 3 (c_X3_letPass stB_11 hLN hX2 hI (by omega)) k0_X3_letPass ki_X3_letPass ml_X3_131 (rfl : SH 0 = _) (by decide) (vRo_of hxR (by decide) (by decide)) dX3_lowest_31 (Nat.le_of_ble_eq_true rfl) (fun N hN => ?_)
    obtain ⟨hF2, -⟩ := hN
    refine o_iret hQ hlk hrt dX3_lowest_34 ?_
    exact ⟨by rw [aLow, if_pos ga]; rfl, fz_tr (fz_tr (a := 11) (c := 21) (a2 := 33) (c2 := 40) fz_rf hF (fun i h1 h2 => by omega)) hF2 (fun i h1 h2 => by omega)⟩
  · skip
    have ga := bP_0.mp h8
    refine v_ldc (-1000002) kc_X3_59 (by decide) dX3_lowest_11 ?_
    refine o_iret hQ hlk hrt dX3_lowest_13 ?_
    exact ⟨by rw [aLow, if_neg ga], fz_rf⟩
def cQ (v : Sg) (h : Int) (s k : Nat) : Nat → Int
  | 0 => 31 * h + vw (100 * (s : Int) + (k : Int))
  | q + 1 => 31 * cQ v h s k q + vw (sPi v s k q)
theorem cQ_5 {v : Sg} {h : Int} {s k : Nat} (g : (sOpn v (sDrw v) true s).testBit k = true) : 31 * cQ v h s k 5 + vw (sRs v (sDrw v) true s k) = cP v h s k := by
  have e0 : sPi v s k 0 = sNeed v s k := by rw [sPi, if_pos rfl]
  have e1 : sPi v s k 1 = v (64 + (24 * s + k)) := by rw [sPi, if_neg (by decide), if_pos rfl]
  have e2 : sPi v s k 2 = sAs v (sDrw v) true (24 * s + k) := by rw [sPi, if_neg (by decide), if_neg (by decide), if_neg (by rw [g]; decide), if_pos rfl]
  have e3 : sPi v s k 3 = sGt v (sDrw v) true (24 * s + k) := by rw [sPi, if_neg (by decide), if_neg (by decide), if_neg (by rw [g]; decide), if_neg (by decide), if_pos rfl]
  have e4 : sPi v s k 4 = sPitch v (sDrw v) true s k := by rw [sPi, if_neg (by decide), if_neg (by decide), if_neg (by rw [g]; decide), if_neg (by decide), if_neg (by decide)]
  rw [cQ, cQ, cQ, cQ, cQ, cQ, e0, e1, e2, e3, e4, cP]
def cEq (v : Sg) : Nat → Int
  | 0 => cD v 6
  | k + 1 => 31 * cEq v k + vw (v (18 + k))
theorem aStop_n (v : Sg) {s w : Nat} (hs : s < 8) (hw : w < 5) : aStop v (s : Int) (w : Int) = v (24 + (5 * s + w)) := by
  unfold aStop
  rw [if_pos (by omega), if_pos (by omega), Int.toNat_natCast, Int.toNat_natCast, Nat.add_assoc]
set_option maxRecDepth 100000 in
set_option maxHeartbeats 400000 in
theorem c_X3_mixOpenPipes {l : Launch} {G : vGG} {M : Mem} {v : Sg} (hLX : LayX M.2) (hX : XS 1 v M.1) (hI : sInv v) (hW : WL 26 v (sDrw v) true M.1) : Cv l yX3_mixOpenPipes cX3_mixOpenPipes 8 (some .long) (rmo 5 110) G [aR (some 0), aL (cE v)] M (some (aL (cF v 192))) M := by
  refine Co.ofV (plainFor_of_name (by decide)) rfl rfl ?_
  intro x hxl hxR hlk hrt Q hQ
  show vO x Q G cX3_mixOpenPipes RX3 0 [some (aR (some 0)), some (aL (cE v)), none, none, none, none, none, none] [] M
  refine v_lload_n 1 dX3_mixOpenPipes_0 rfl rfl ?_
  refine v_lst3 dX3_mixOpenPipes_1 rfl ?_
  refine v_iconst dX3_mixOpenPipes_2 ?_
  refine v_ist5 dX3_mixOpenPipes_3 rfl ?_
  have lp5 : ∀ (dd s : Nat) (c6 c7 : Option AV), s + dd = 8 → vO x Q G cX3_mixOpenPipes RX3 5 [some (aR (some 0)), some (aL (cE v)), none, some (aL (cF v (24 * s))), none, some (aI (s : Int)), c6, c7] [] M := by
    intro dd
    induction dd with
    | zero =>
      intro s c6 c7 hd
      obtain rfl : s = 8 := by omega
      refine v_iload dX3_mixOpenPipes_5 rfl ?_
      refine v_bipush dX3_mixOpenPipes_7 (by decide) ?_
      refine v_icmp_ge 108 dX3_mixOpenPipes_9 (by decide) (by omega) (by decide) (fun h9 => ?_) (fun h9 => ?_)
      · skip
        refine v_lload_n 3 dX3_mixOpenPipes_108 rfl rfl ?_
        refine o_lret hQ hlk hrt dX3_mixOpenPipes_109 ?_
        exact ⟨rfl, rfl⟩
      · skip
        exact absurd h9 (by omega)
    | succ dd ih =>
      intro s c6 c7 hd
      refine v_iload dX3_mixOpenPipes_5 rfl ?_
      refine v_bipush dX3_mixOpenPipes_7 (by decide) ?_
      refine v_icmp_ge 108 dX3_mixOpenPipes_9 (by decide) (by omega) (by decide) (fun h9 => ?_) (fun h9 => ?_)
      · skip
        exact absurd h9 (by omega)
      · skip
        refine v_iconst dX3_mixOpenPipes_12 ?_
        refine v_ist6 dX3_mixOpenPipes_13 rfl ?_
        have lp15 : ∀ (dd2 k : Nat) (c7 : Option AV), k + dd2 = 24 → vO x Q G cX3_mixOpenPipes RX3 15 [some (aR (some 0)), some (aL (cE v)), none, some (aL (cF v (24 * s + k))), none, some (aI (s : Int)), some (aI (k : Int)), c7] [] M := by
          intro dd2
          induction dd2 with
          | zero =>
            intro k c7 hd2
            obtain rfl : k = 24 := by omega
            refine v_iload dX3_mixOpenPipes_15 rfl ?_
            refine v_bipush dX3_mixOpenPipes_17 (by decide) ?_
            refine v_icmp_ge 102 dX3_mixOpenPipes_19 (by decide) (by omega) (by decide) (fun h19 => ?_) (fun h19 => ?_)
            · skip
              refine v_iinc5 dX3_mixOpenPipes_102 rfl ?_
              refine v_goto 5 dX3_mixOpenPipes_105 (by decide) ?_
              exact ih (s + 1) _ _ (by omega)
            · skip
              exact absurd h19 (by omega)
          | succ dd2 ih2 =>
            intro k c7 hd2
            refine v_iload dX3_mixOpenPipes_15 rfl ?_
            refine v_bipush dX3_mixOpenPipes_17 (by decide) ?_
            refine v_icmp_ge 102 dX3_mixOpenPipes_19 (by decide) (by omega) (by decide) (fun h19 => ?_) (fun h19 => ?_)
            · skip
              exact absurd h19 (by omega)
            · skip
              refine v_aload_n 0 dX3_mixOpenPipes_22 rfl rfl ?_
              refine v_getR lk_X3_40 rfl (rfl : SH 0 = _) (ow_6 hLX) dX3_mixOpenPipes_23 ?_
              refine v_getR lk_X3_193 rfl (wi_o wiB_26) (hLX.2.1 26 wiB_26 0 (by decide)) dX3_mixOpenPipes_26 ?_
              refine v_iload dX3_mixOpenPipes_29 rfl ?_
              refine o_iald (j := s) (u := ((sOpn v (sDrw v) true (s) : Nat) : Int)) (wi_a0 wiB_26) (by omega) (by omega) (hW.1.1 _ (by omega)) dX3_mixOpenPipes_31 ?_
              refine v_iload dX3_mixOpenPipes_32 rfl ?_
              have hol := sOpn_lt hI (sDrw v) true (show s < 8 by omega)
              refine oSv2 (c_X3_isIn (Int.natCast_nonneg _) (by omega) (by omega)) k0_X3_isIn ki_X3_isIn ml_X3_84 (vRo_of hxR (by decide) (by decide)) dX3_mixOpenPipes_34 (Nat.le_of_ble_eq_true rfl) ?_
              have jn96 : ∀ (z : Int) (c7 : Option AV), z = cF v (24 * s + (k + 1)) → vO x Q G cX3_mixOpenPipes RX3 96 [some (aR (some 0)), some (aL (cE v)), none, some (aL (z)), none, some (aI (s : Int)), some (aI (k : Int)), c7] [] M := by
                intro z c7 hz
                subst hz
                refine v_iinc6 dX3_mixOpenPipes_96 rfl ?_
                refine v_goto 15 dX3_mixOpenPipes_99 (by decide) ?_
                exact ih2 (k + 1) _ (by omega)
              refine v_if_eq 96 dX3_mixOpenPipes_37 (by decide) (bP_R _) (fun h37 => ?_) (fun h37 => ?_)
              · skip
                have g : ¬ (sOpn v (sDrw v) true s).testBit k = true := by simpa [bt] using bP_0.mp h37
                first | exact jn96 _ _ (cF_e (by omega) g) | exact jn96 _ _ ((cQ_5 g).trans (cF_t (by omega) g))
              · skip
                have g : (sOpn v (sDrw v) true s).testBit k = true := by simpa [bt] using bP_n0.mp h37
                refine v_lload_n 3 dX3_mixOpenPipes_40 rfl rfl ?_
                refine v_bipush dX3_mixOpenPipes_41 (by decide) ?_
                refine v_iload dX3_mixOpenPipes_43 rfl ?_
                refine v_imul dX3_mixOpenPipes_45 ?_
                refine v_iload dX3_mixOpenPipes_46 rfl ?_
                refine v_iadd dX3_mixOpenPipes_48 ?_
                refine oSv2 (c_X3_mix) k0_X3_mix ki_X3_mix ml_X3_290 (vRo_of hxR (by decide) (by decide)) dX3_mixOpenPipes_49 (Nat.le_of_ble_eq_true rfl) ?_
                refine v_lst3 dX3_mixOpenPipes_52 rfl ?_
                refine v_iconst dX3_mixOpenPipes_53 ?_
                refine v_ist7 dX3_mixOpenPipes_54 rfl ?_
                have lp56 : ∀ (dd3 q : Nat), q + dd3 = 5 → vO x Q G cX3_mixOpenPipes RX3 56 [some (aR (some 0)), some (aL (cE v)), none, some (aL (cQ v (cF v (24 * s + k)) s k q)), none, some (aI (s : Int)), some (aI (k : Int)), some (aI (q : Int))] [] M := by
                  intro dd3
                  induction dd3 with
                  | zero =>
                    intro q hd3
                    obtain rfl : q = 5 := by omega
                    refine v_iload dX3_mixOpenPipes_56 rfl ?_
                    refine v_iconst dX3_mixOpenPipes_58 ?_
                    refine v_icmp_ge 83 dX3_mixOpenPipes_59 (by decide) (by omega) (by decide) (fun h59 => ?_) (fun h59 => ?_)
                    · skip
                      refine v_lload_n 3 dX3_mixOpenPipes_83 rfl rfl ?_
                      refine v_aload_n 0 dX3_mixOpenPipes_84 rfl rfl ?_
                      refine v_iload dX3_mixOpenPipes_85 rfl ?_
                      refine v_iload dX3_mixOpenPipes_87 rfl ?_
                      refine oVv2 3 (c_X3_reasonTold hLX hX hI hW (by omega) (by omega)) k0_X3_reasonTold ki_X3_reasonTold ml_X3_234 (rfl : SH 0 = _) (by decide) (vRo_of hxR (by decide) (by decide)) dX3_mixOpenPipes_89 (Nat.le_of_ble_eq_true rfl) ?_
                      refine oSv2 (c_X3_mix) k0_X3_mix ki_X3_mix ml_X3_290 (vRo_of hxR (by decide) (by decide)) dX3_mixOpenPipes_92 (Nat.le_of_ble_eq_true rfl) ?_
                      refine v_lst3 dX3_mixOpenPipes_95 rfl ?_
                      first | exact jn96 _ _ (cF_e (by omega) g) | exact jn96 _ _ ((cQ_5 g).trans (cF_t (by omega) g))
                    · skip
                      exact absurd h59 (by omega)
                  | succ dd3 ih3 =>
                    intro q hd3
                    refine v_iload dX3_mixOpenPipes_56 rfl ?_
                    refine v_iconst dX3_mixOpenPipes_58 ?_
                    refine v_icmp_ge 83 dX3_mixOpenPipes_59 (by decide) (by omega) (by decide) (fun h59 => ?_) (fun h59 => ?_)
                    · skip
                      exact absurd h59 (by omega)
                    · skip
                      refine v_lload_n 3 dX3_mixOpenPipes_62 rfl rfl ?_
                      refine v_aload_n 0 dX3_mixOpenPipes_63 rfl rfl ?_
                      refine v_iload dX3_mixOpenPipes_64 rfl ?_
                      refine v_iload dX3_mixOpenPipes_66 rfl ?_
                      refine v_iload dX3_mixOpenPipes_68 rfl ?_
                      refine oVv3 3 (c_X3_pipeTold hLX hX hI hW (by omega) (by omega) (by omega)) k0_X3_pipeTold ki_X3_pipeTold ml_X3_217 (rfl : SH 0 = _) (by decide) (vRo_of hxR (by decide) (by decide)) dX3_mixOpenPipes_70 (Nat.le_of_ble_eq_true rfl) ?_
                      refine oSv2 (c_X3_mix) k0_X3_mix ki_X3_mix ml_X3_290 (vRo_of hxR (by decide) (by decide)) dX3_mixOpenPipes_73 (Nat.le_of_ble_eq_true rfl) ?_
                      refine v_lst3 dX3_mixOpenPipes_76 rfl ?_
                      refine v_iinc7 dX3_mixOpenPipes_77 rfl ?_
                      refine v_goto 56 dX3_mixOpenPipes_80 (by decide) ?_
                      exact ih3 (q + 1) (by omega)
                exact lp56 5 0 rfl
        exact lp15 24 0 _ rfl
  exact lp5 8 0 _ _ rfl
set_option maxRecDepth 100000 in
set_option maxHeartbeats 1000000 in
theorem c_X3_checksum {l : Launch} {G : vGG} {M : Mem} {v : Sg} (hLX : LayX M.2) (hX : XS 1 v M.1) (hI : sInv v) : Co l yX3_checksum cX3_checksum 5 (some .long) (rmo 7 160) G [aR (some 0)] M (fun r M' => r = some (aL (sSum v)) ∧ fz 26 40 1 0 M M') := by
  refine Co.ofV (plainFor_of_name (by decide)) rfl rfl ?_
  intro x hxl hxR hlk hrt Q hQ
  show vO x Q G cX3_checksum RX3 0 [some (aR (some 0)), none, none, none, none] [] M
  refine v_aload_n 0 dX3_checksum_0 rfl rfl ?_
  refine oVm0 3 (c_X3_readWind hLX hX hI) k0_X3_readWind ki_X3_readWind ml_X3_172 (rfl : SH 0 = _) (by decide) (vRo_of hxR (by decide) (by decide)) dX3_checksum_1 (Nat.le_of_ble_eq_true rfl) (fun N hN => ?_)
  obtain ⟨hF, hW⟩ := hN
  have hLN := fz_layX hF hLX
  have hXN := hX.keep (fun i h1 h2 => hF.2 i (by omega) (by omega))
  have hFq : fz 26 40 1 0 M N := ⟨hF.1, fun i h1 h2 => hF.2 i (by omega) (by omega)⟩
  refine v_ldc2 (151) kc_X3_285 (by decide) dX3_checksum_4 ?_
  refine v_lst1 dX3_checksum_7 rfl ?_
  refine v_iconst dX3_checksum_8 ?_
  refine v_ist3 dX3_checksum_9 rfl ?_
  have lp10 : ∀ (dd k : Nat) (c4 : Option AV), k + dd = 8 → vO x Q G cX3_checksum RX3 10 [some (aR (some 0)), some (aL (cA v (5 * k))), none, some (aI (k : Int)), c4] [] N := by
    intro dd
    induction dd with
    | zero =>
      intro k c4 hd
      obtain rfl : k = 8 := by omega
      refine v_iload_n 3 dX3_checksum_10 rfl rfl ?_
      refine v_bipush dX3_checksum_11 (by decide) ?_
      refine v_icmp_ge 49 dX3_checksum_13 (by decide) (by omega) (by decide) (fun h13 => ?_) (fun h13 => ?_)
      · skip
        refine v_iconst dX3_checksum_49 ?_
        refine v_ist3 dX3_checksum_50 rfl ?_
        have lp51 : ∀ (dd k : Nat) (c4 : Option AV), k + dd = 9 → vO x Q G cX3_checksum RX3 51 [some (aR (some 0)), some (aL (cB v k)), none, some (aI (k : Int)), c4] [] N := by
          intro dd
          induction dd with
          | zero =>
            intro k c4 hd
            obtain rfl : k = 9 := by omega
            refine v_iload_n 3 dX3_checksum_51 rfl rfl ?_
            refine v_bipush dX3_checksum_52 (by decide) ?_
            refine v_icmp_ge 77 dX3_checksum_54 (by decide) (by omega) (by decide) (fun h54 => ?_) (fun h54 => ?_)
            · skip
              refine v_iconst dX3_checksum_77 ?_
              refine v_ist3 dX3_checksum_78 rfl ?_
              have lp79 : ∀ (dd k : Nat) (c4 : Option AV), k + dd = 10 → vO x Q G cX3_checksum RX3 79 [some (aR (some 0)), some (aL (cC v k)), none, some (aI (k : Int)), c4] [] N := by
                intro dd
                induction dd with
                | zero =>
                  intro k c4 hd
                  obtain rfl : k = 10 := by omega
                  refine v_iload_n 3 dX3_checksum_79 rfl rfl ?_
                  refine v_bipush dX3_checksum_80 (by decide) ?_
                  refine v_icmp_ge 101 dX3_checksum_82 (by decide) (by omega) (by decide) (fun h82 => ?_) (fun h82 => ?_)
                  · skip
                    refine v_iconst dX3_checksum_101 ?_
                    refine v_ist3 dX3_checksum_102 rfl ?_
                    have lp103 : ∀ (dd k : Nat) (c4 : Option AV), k + dd = 2 → vO x Q G cX3_checksum RX3 103 [some (aR (some 0)), some (aL (cD v (3 * k))), none, some (aI (k : Int)), c4] [] N := by
                      intro dd
                      induction dd with
                      | zero =>
                        intro k c4 hd
                        obtain rfl : k = 2 := by omega
                        refine v_iload_n 3 dX3_checksum_103 rfl rfl ?_
                        refine v_iconst dX3_checksum_104 ?_
                        refine v_icmp_ge 141 dX3_checksum_105 (by decide) (by omega) (by decide) (fun h105 => ?_) (fun h105 => ?_)
                        · skip
                          refine v_iconst dX3_checksum_141 ?_
                          refine v_ist3 dX3_checksum_142 rfl ?_
                          have lp143 : ∀ (dd k : Nat) (c4 : Option AV), k + dd = 2 → vO x Q G cX3_checksum RX3 143 [some (aR (some 0)), some (aL (cEq v k)), none, some (aI (k : Int)), c4] [] N := by
                            intro dd
                            induction dd with
                            | zero =>
                              intro k c4 hd
                              obtain rfl : k = 2 := by omega
                              refine v_iload_n 3 dX3_checksum_143 rfl rfl ?_
                              refine v_iconst dX3_checksum_144 ?_
                              refine v_icmp_ge 168 dX3_checksum_145 (by decide) (by omega) (by decide) (fun h145 => ?_) (fun h145 => ?_)
                              · skip
                                refine v_aload_n 0 dX3_checksum_168 rfl rfl ?_
                                refine v_lload_n 1 dX3_checksum_169 rfl rfl ?_
                                refine oVv1 3 (c_X3_mixOpenPipes hLN hXN hI hW) k0_X3_mixOpenPipes ki_X3_mixOpenPipes ml_X3_294 (rfl : SH 0 = _) (by decide) (vRo_of hxR (by decide) (by decide)) dX3_checksum_170 (Nat.le_of_ble_eq_true rfl) ?_
                                refine v_lst1 dX3_checksum_173 rfl ?_
                                refine v_lload_n 1 dX3_checksum_174 rfl rfl ?_
                                refine v_aload_n 0 dX3_checksum_175 rfl rfl ?_
                                refine oVv0 3 (c_X3_greatestDifference hLN hXN hI hW) k0_X3_greatestDifference ki_X3_greatestDifference ml_X3_243 (rfl : SH 0 = _) (by decide) (vRo_of hxR (by decide) (by decide)) dX3_checksum_176 (Nat.le_of_ble_eq_true rfl) ?_
                                refine oSv2 (c_X3_mix) k0_X3_mix ki_X3_mix ml_X3_290 (vRo_of hxR (by decide) (by decide)) dX3_checksum_179 (Nat.le_of_ble_eq_true rfl) ?_
                                refine v_lst1 dX3_checksum_182 rfl ?_
                                refine v_lload_n 1 dX3_checksum_183 rfl rfl ?_
                                refine v_aload_n 0 dX3_checksum_184 rfl rfl ?_
                                refine oVq0 3 (c_X3_cipheringStop hLN hXN hI) k0_X3_cipheringStop ki_X3_cipheringStop ml_X3_256 (rfl : SH 0 = _) (by decide) (vRo_of hxR (by decide) (by decide)) dX3_checksum_185 (Nat.le_of_ble_eq_true rfl) (fun N hN => ?_)
                                have hF2 := fz_tr hFq hN (fun i h1 h2 => by omega)
                                have hLN := fz_layX hF2 hLX
                                have hXN := hX.keep (fun i h1 h2 => hF2.2 i (by omega) (by omega))
                                refine oSv2 (c_X3_mix) k0_X3_mix ki_X3_mix ml_X3_290 (vRo_of hxR (by decide) (by decide)) dX3_checksum_188 (Nat.le_of_ble_eq_true rfl) ?_
                                refine v_lst1 dX3_checksum_191 rfl ?_
                                refine v_lload_n 1 dX3_checksum_192 rfl rfl ?_
                                refine v_aload_n 0 dX3_checksum_193 rfl rfl ?_
                                refine oVq0 3 (c_X3_testsOfSearch hLN hXN hI) k0_X3_testsOfSearch ki_X3_testsOfSearch ml_X3_259 (rfl : SH 0 = _) (by decide) (vRo_of hxR (by decide) (by decide)) dX3_checksum_194 (Nat.le_of_ble_eq_true rfl) (fun N hN => ?_)
                                have hF3 := fz_tr hF2 hN (fun i h1 h2 => by omega)
                                refine oSv2 (c_X3_mix) k0_X3_mix ki_X3_mix ml_X3_290 (vRo_of hxR (by decide) (by decide)) dX3_checksum_197 (Nat.le_of_ble_eq_true rfl) ?_
                                refine o_lret hQ hlk hrt dX3_checksum_200 ?_
                                exact ⟨rfl, hF3⟩
                              · skip
                                exact absurd h145 (by omega)
                            | succ dd ih =>
                              intro k c4 hd
                              refine v_iload_n 3 dX3_checksum_143 rfl rfl ?_
                              refine v_iconst dX3_checksum_144 ?_
                              refine v_icmp_ge 168 dX3_checksum_145 (by decide) (by omega) (by decide) (fun h145 => ?_) (fun h145 => ?_)
                              · skip
                                exact absurd h145 (by omega)
                              · skip
                                refine v_lload_n 1 dX3_checksum_148 rfl rfl ?_
                                refine v_aload_n 0 dX3_checksum_149 rfl rfl ?_
                                refine v_getR lk_X3_10 rfl (rfl : SH 0 = _) (ow_0 hLN) dX3_checksum_150 ?_
                                refine v_getR lk_X3_214 rfl (st_o stB_1) (hLN.1 1 stB_1 8 (by decide)) dX3_checksum_153 ?_
                                refine v_iload_n 3 dX3_checksum_156 rfl rfl ?_
                                refine o_iald (j := k) (u := v (18 + (k))) (st_a8 stB_1) (by omega) (by omega) (xs_sb hXN (by omega)) dX3_checksum_157 ?_
                                refine oSv2 (c_X3_mix) k0_X3_mix ki_X3_mix ml_X3_290 (vRo_of hxR (by decide) (by decide)) dX3_checksum_158 (Nat.le_of_ble_eq_true rfl) ?_
                                refine v_lst1 dX3_checksum_161 rfl ?_
                                refine v_iinc3 dX3_checksum_162 rfl ?_
                                refine v_goto 143 dX3_checksum_165 (by decide) ?_
                                exact ih (k + 1) _ (by omega)
                          exact lp143 2 0 _ rfl
                        · skip
                          exact absurd h105 (by omega)
                      | succ dd ih =>
                        intro k c4 hd
                        refine v_iload_n 3 dX3_checksum_103 rfl rfl ?_
                        refine v_iconst dX3_checksum_104 ?_
                        refine v_icmp_ge 141 dX3_checksum_105 (by decide) (by omega) (by decide) (fun h105 => ?_) (fun h105 => ?_)
                        · skip
                          exact absurd h105 (by omega)
                        · skip
                          refine v_iconst dX3_checksum_108 ?_
                          refine v_ist4 dX3_checksum_109 rfl ?_
                          have lp111 : ∀ (dd2 w : Nat), w + dd2 = 3 → vO x Q G cX3_checksum RX3 111 [some (aR (some 0)), some (aL (cD v (3 * k + w))), none, some (aI (k : Int)), some (aI (w : Int))] [] N := by
                            intro dd2
                            induction dd2 with
                            | zero =>
                              intro w hd2
                              obtain rfl : w = 3 := by omega
                              refine v_iload dX3_checksum_111 rfl ?_
                              refine v_iconst dX3_checksum_113 ?_
                              refine v_icmp_ge 135 dX3_checksum_114 (by decide) (by omega) (by decide) (fun h114 => ?_) (fun h114 => ?_)
                              · skip
                                refine v_iinc3 dX3_checksum_135 rfl ?_
                                refine v_goto 103 dX3_checksum_138 (by decide) ?_
                                exact ih (k + 1) _ (by omega)
                              · skip
                                exact absurd h114 (by omega)
                            | succ dd2 ih2 =>
                              intro w hd2
                              refine v_iload dX3_checksum_111 rfl ?_
                              refine v_iconst dX3_checksum_113 ?_
                              refine v_icmp_ge 135 dX3_checksum_114 (by decide) (by omega) (by decide) (fun h114 => ?_) (fun h114 => ?_)
                              · skip
                                exact absurd h114 (by omega)
                              · skip
                                refine v_lload_n 1 dX3_checksum_117 rfl rfl ?_
                                refine v_aload_n 0 dX3_checksum_118 rfl rfl ?_
                                refine v_iload_n 3 dX3_checksum_119 rfl rfl ?_
                                refine v_iload dX3_checksum_120 rfl ?_
                                refine oVv2 3 (c_X3_chestTold hLN hXN hI hW (by omega) (by omega)) k0_X3_chestTold ki_X3_chestTold ml_X3_202 (rfl : SH 0 = _) (by decide) (vRo_of hxR (by decide) (by decide)) dX3_checksum_122 (Nat.le_of_ble_eq_true rfl) ?_
                                refine o_eqI (u := sCh v k w) (by rw [if_pos (by omega), Int.toNat_natCast]) ?_
                                refine oSv2 (c_X3_mix) k0_X3_mix ki_X3_mix ml_X3_290 (vRo_of hxR (by decide) (by decide)) dX3_checksum_125 (Nat.le_of_ble_eq_true rfl) ?_
                                refine v_lst1 dX3_checksum_128 rfl ?_
                                refine v_iinc4 dX3_checksum_129 rfl ?_
                                refine v_goto 111 dX3_checksum_132 (by decide) ?_
                                have q := ih2 (w + 1) (by omega)
                                rw [cD_s v k (by omega)] at q
                                exact q
                          exact lp111 3 0 rfl
                    exact lp103 2 0 _ rfl
                  · skip
                    exact absurd h82 (by omega)
                | succ dd ih =>
                  intro k c4 hd
                  refine v_iload_n 3 dX3_checksum_79 rfl rfl ?_
                  refine v_bipush dX3_checksum_80 (by decide) ?_
                  refine v_icmp_ge 101 dX3_checksum_82 (by decide) (by omega) (by decide) (fun h82 => ?_) (fun h82 => ?_)
                  · skip
                    exact absurd h82 (by omega)
                  · skip
                    refine v_lload_n 1 dX3_checksum_85 rfl rfl ?_
                    refine v_aload_n 0 dX3_checksum_86 rfl rfl ?_
                    refine v_iload_n 3 dX3_checksum_87 rfl rfl ?_
                    refine oVv1 3 (c_X3_numberTold hLN hXN hI hW (by omega)) k0_X3_numberTold ki_X3_numberTold ml_X3_175 (rfl : SH 0 = _) (by decide) (vRo_of hxR (by decide) (by decide)) dX3_checksum_88 (Nat.le_of_ble_eq_true rfl) ?_
                    refine oSv2 (c_X3_mix) k0_X3_mix ki_X3_mix ml_X3_290 (vRo_of hxR (by decide) (by decide)) dX3_checksum_91 (Nat.le_of_ble_eq_true rfl) ?_
                    refine v_lst1 dX3_checksum_94 rfl ?_
                    refine v_iinc3 dX3_checksum_95 rfl ?_
                    refine v_goto 79 dX3_checksum_98 (by decide) ?_
                    exact ih (k + 1) _ (by omega)
              exact lp79 10 0 _ rfl
            · skip
              exact absurd h54 (by omega)
          | succ dd ih =>
            intro k c4 hd
            refine v_iload_n 3 dX3_checksum_51 rfl rfl ?_
            refine v_bipush dX3_checksum_52 (by decide) ?_
            refine v_icmp_ge 77 dX3_checksum_54 (by decide) (by omega) (by decide) (fun h54 => ?_) (fun h54 => ?_)
            · skip
              exact absurd h54 (by omega)
            · skip
              refine v_lload_n 1 dX3_checksum_57 rfl rfl ?_
              refine v_aload_n 0 dX3_checksum_58 rfl rfl ?_
              refine v_getR lk_X3_10 rfl (rfl : SH 0 = _) (ow_0 hLN) dX3_checksum_59 ?_
              refine v_getR lk_X3_97 rfl (st_o stB_1) (hLN.1 1 stB_1 6 (by decide)) dX3_checksum_62 ?_
              refine v_iload_n 3 dX3_checksum_65 rfl rfl ?_
              refine o_iald (j := k) (u := v (1 + (k))) (st_a6 stB_1) (by omega) (by omega) (xs_set hXN (by omega)) dX3_checksum_66 ?_
              refine oSv2 (c_X3_mix) k0_X3_mix ki_X3_mix ml_X3_290 (vRo_of hxR (by decide) (by decide)) dX3_checksum_67 (Nat.le_of_ble_eq_true rfl) ?_
              refine v_lst1 dX3_checksum_70 rfl ?_
              refine v_iinc3 dX3_checksum_71 rfl ?_
              refine v_goto 51 dX3_checksum_74 (by decide) ?_
              exact ih (k + 1) _ (by omega)
        exact lp51 9 0 _ rfl
      · skip
        exact absurd h13 (by omega)
    | succ dd ih =>
      intro k c4 hd
      refine v_iload_n 3 dX3_checksum_10 rfl rfl ?_
      refine v_bipush dX3_checksum_11 (by decide) ?_
      refine v_icmp_ge 49 dX3_checksum_13 (by decide) (by omega) (by decide) (fun h13 => ?_) (fun h13 => ?_)
      · skip
        exact absurd h13 (by omega)
      · skip
        refine v_iconst dX3_checksum_16 ?_
        refine v_ist4 dX3_checksum_17 rfl ?_
        have lp19 : ∀ (dd2 w : Nat), w + dd2 = 5 → vO x Q G cX3_checksum RX3 19 [some (aR (some 0)), some (aL (cA v (5 * k + w))), none, some (aI (k : Int)), some (aI (w : Int))] [] N := by
          intro dd2
          induction dd2 with
          | zero =>
            intro w hd2
            obtain rfl : w = 5 := by omega
            refine v_iload dX3_checksum_19 rfl ?_
            refine v_iconst dX3_checksum_21 ?_
            refine v_icmp_ge 43 dX3_checksum_22 (by decide) (by omega) (by decide) (fun h22 => ?_) (fun h22 => ?_)
            · skip
              refine v_iinc3 dX3_checksum_43 rfl ?_
              refine v_goto 10 dX3_checksum_46 (by decide) ?_
              exact ih (k + 1) _ (by omega)
            · skip
              exact absurd h22 (by omega)
          | succ dd2 ih2 =>
            intro w hd2
            refine v_iload dX3_checksum_19 rfl ?_
            refine v_iconst dX3_checksum_21 ?_
            refine v_icmp_ge 43 dX3_checksum_22 (by decide) (by omega) (by decide) (fun h22 => ?_) (fun h22 => ?_)
            · skip
              exact absurd h22 (by omega)
            · skip
              refine v_lload_n 1 dX3_checksum_25 rfl rfl ?_
              refine v_aload_n 0 dX3_checksum_26 rfl rfl ?_
              refine v_iload_n 3 dX3_checksum_27 rfl rfl ?_
              refine v_iload dX3_checksum_28 rfl ?_
              refine oVv2 3 (c_X3_stop hLN hXN hI (by omega) (by omega)) k0_X3_stop ki_X3_stop ml_X3_287 (rfl : SH 0 = _) (by decide) (vRo_of hxR (by decide) (by decide)) dX3_checksum_30 (Nat.le_of_ble_eq_true rfl) ?_
              refine o_eqI (aStop_n v (by omega) (by omega)) ?_
              refine oSv2 (c_X3_mix) k0_X3_mix ki_X3_mix ml_X3_290 (vRo_of hxR (by decide) (by decide)) dX3_checksum_33 (Nat.le_of_ble_eq_true rfl) ?_
              refine v_lst1 dX3_checksum_36 rfl ?_
              refine v_iinc4 dX3_checksum_37 rfl ?_
              refine v_goto 19 dX3_checksum_40 (by decide) ?_
              exact ih2 (w + 1) (by omega)
        exact lp19 5 0 rfl
  exact lp10 8 0 _ rfl
