/-! ===== the class: searches ===== -/
set_option maxRecDepth 100000 in
set_option maxHeartbeats 400000 in
theorem c_X3_cipheringStop {l : Launch} {G : vGG} {M : Mem} {v : Sg} (hLX : LayX M.2) (hX : XS 1 v M.1) (hI : sInv v) : Co l yX3_cipheringStop cX3_cipheringStop 3 (some .int) (rmo 6 138) G [aR (some 0)] M (fun r M' => r = some (aI (sSearch v 0)) ∧ fz 33 40 1 0 M M') := by
  refine Co.ofV (plainFor_of_name (by decide)) rfl rfl ?_
  intro x hxl hxR hlk hrt Q hQ
  have hF : fz 33 40 1 0 M M := fz_rf
  have hLN := hLX
  have hXN := hX
  show vO x Q G cX3_cipheringStop RX3 0 [some (aR (some 0)), none, none] [] M
  refine v_aload_n 0 dX3_cipheringStop_0 rfl rfl ?_
  refine v_sipush dX3_cipheringStop_1 (by decide) ?_
  refine oVq1 3 (c_X3_isHeard (st := sRow 0 8) hLN hXN hI (by decide)) k0_X3_isHeard ki_X3_isHeard ml_X3_265 (rfl : SH 0 = _) (by decide) (vRo_of hxR (by decide) (by decide)) dX3_cipheringStop_4 (Nat.le_of_ble_eq_true rfl) (fun N hN => ?_)
  have hF := fz_tr hF hN (fun i h1 h2 => ⟨h1, h2⟩)
  have hLN := fz_layX hF hLX
  have hXN := hX.keep (fun i h1 h2 => hF.2 i (by omega) (by omega))
  refine v_if_ne 13 dX3_cipheringStop_7 (by decide) (bP_R _) (fun h7 => ?_) (fun h7 => ?_)
  · skip
    have g0 : ¬ sH v 0 8 = false := by rw [show sH v 0 8 = true from decide_eq_true (bP_n0.mp h7)]; decide
    refine v_iconst dX3_cipheringStop_13 ?_
    refine v_ist1 dX3_cipheringStop_14 rfl ?_
    refine v_iconst dX3_cipheringStop_15 ?_
    refine v_ist2 dX3_cipheringStop_16 rfl ?_
    refine v_iload_n 2 dX3_cipheringStop_17 rfl rfl ?_
    refine v_if_le 44 dX3_cipheringStop_18 (by decide) (by decide) (fun h18 => ?_) (fun h18 => ?_)
    · skip
      exact absurd h18 (by decide)
    · skip
      refine v_aload_n 0 dX3_cipheringStop_21 rfl rfl ?_
      refine v_iload_n 1 dX3_cipheringStop_22 rfl rfl ?_
      refine v_iload_n 2 dX3_cipheringStop_23 rfl rfl ?_
      refine oSv2 (c_X3_rowOfStops (a := 0) (b := 4) (by decide)) k0_X3_rowOfStops ki_X3_rowOfStops ml_X3_268 (vRo_of hxR (by decide) (by decide)) dX3_cipheringStop_24 (Nat.le_of_ble_eq_true rfl) ?_
      refine oVq1 3 (c_X3_isHeard (st := sRow 0 4) hLN hXN hI (by decide)) k0_X3_isHeard ki_X3_isHeard ml_X3_265 (rfl : SH 0 = _) (by decide) (vRo_of hxR (by decide) (by decide)) dX3_cipheringStop_27 (Nat.le_of_ble_eq_true rfl) (fun N hN => ?_)
      have hF := fz_tr hF hN (fun i h1 h2 => ⟨h1, h2⟩)
      have hLN := fz_layX hF hLX
      have hXN := hX.keep (fun i h1 h2 => hF.2 i (by omega) (by omega))
      refine v_if_ne 37 dX3_cipheringStop_30 (by decide) (bP_R _) (fun h30 => ?_) (fun h30 => ?_)
      · skip
        have ga : sFa v = 0 := by rw [sFa, if_pos (show sH v 0 4 = true from decide_eq_true (bP_n0.mp h30))]
        refine v_iload_n 2 dX3_cipheringStop_37 rfl rfl ?_
        refine v_iconst dX3_cipheringStop_38 ?_
        refine v_idiv dX3_cipheringStop_39 (by decide) (by decide) (by omega) ?_
        refine o_eqI (u := 2) (by decide) ?_
        refine v_ist2 dX3_cipheringStop_40 rfl ?_
        refine v_goto 17 dX3_cipheringStop_41 (by decide) ?_
        refine v_iload_n 2 dX3_cipheringStop_17 rfl rfl ?_
        refine v_if_le 44 dX3_cipheringStop_18 (by decide) (by decide) (fun h18 => ?_) (fun h18 => ?_)
        · skip
          exact absurd h18 (by decide)
        · skip
          refine v_aload_n 0 dX3_cipheringStop_21 rfl rfl ?_
          refine v_iload_n 1 dX3_cipheringStop_22 rfl rfl ?_
          refine v_iload_n 2 dX3_cipheringStop_23 rfl rfl ?_
          refine oSv2 (c_X3_rowOfStops (a := 0) (b := 2) (by decide)) k0_X3_rowOfStops ki_X3_rowOfStops ml_X3_268 (vRo_of hxR (by decide) (by decide)) dX3_cipheringStop_24 (Nat.le_of_ble_eq_true rfl) ?_
          refine oVq1 3 (c_X3_isHeard (st := sRow 0 2) hLN hXN hI (by decide)) k0_X3_isHeard ki_X3_isHeard ml_X3_265 (rfl : SH 0 = _) (by decide) (vRo_of hxR (by decide) (by decide)) dX3_cipheringStop_27 (Nat.le_of_ble_eq_true rfl) (fun N hN => ?_)
          have hF := fz_tr hF hN (fun i h1 h2 => ⟨h1, h2⟩)
          have hLN := fz_layX hF hLX
          have hXN := hX.keep (fun i h1 h2 => hF.2 i (by omega) (by omega))
          refine v_if_ne 37 dX3_cipheringStop_30 (by decide) (bP_R _) (fun h30 => ?_) (fun h30 => ?_)
          · skip
            have gb : sFb v = 0 := by rw [sFb, ga, if_pos (show sH v 0 2 = true from decide_eq_true (bP_n0.mp h30))]
            refine v_iload_n 2 dX3_cipheringStop_37 rfl rfl ?_
            refine v_iconst dX3_cipheringStop_38 ?_
            refine v_idiv dX3_cipheringStop_39 (by decide) (by decide) (by omega) ?_
            refine o_eqI (u := 1) (by decide) ?_
            refine v_ist2 dX3_cipheringStop_40 rfl ?_
            refine v_goto 17 dX3_cipheringStop_41 (by decide) ?_
            refine v_iload_n 2 dX3_cipheringStop_17 rfl rfl ?_
            refine v_if_le 44 dX3_cipheringStop_18 (by decide) (by decide) (fun h18 => ?_) (fun h18 => ?_)
            · skip
              exact absurd h18 (by decide)
            · skip
              refine v_aload_n 0 dX3_cipheringStop_21 rfl rfl ?_
              refine v_iload_n 1 dX3_cipheringStop_22 rfl rfl ?_
              refine v_iload_n 2 dX3_cipheringStop_23 rfl rfl ?_
              refine oSv2 (c_X3_rowOfStops (a := 0) (b := 1) (by decide)) k0_X3_rowOfStops ki_X3_rowOfStops ml_X3_268 (vRo_of hxR (by decide) (by decide)) dX3_cipheringStop_24 (Nat.le_of_ble_eq_true rfl) ?_
              refine oVq1 3 (c_X3_isHeard (st := sRow 0 1) hLN hXN hI (by decide)) k0_X3_isHeard ki_X3_isHeard ml_X3_265 (rfl : SH 0 = _) (by decide) (vRo_of hxR (by decide) (by decide)) dX3_cipheringStop_27 (Nat.le_of_ble_eq_true rfl) (fun N hN => ?_)
              have hF := fz_tr hF hN (fun i h1 h2 => ⟨h1, h2⟩)
              have hLN := fz_layX hF hLX
              have hXN := hX.keep (fun i h1 h2 => hF.2 i (by omega) (by omega))
              refine v_if_ne 37 dX3_cipheringStop_30 (by decide) (bP_R _) (fun h30 => ?_) (fun h30 => ?_)
              · skip
                have gd : sFd v = 0 := by rw [sFd, gb, if_pos (show sH v 0 1 = true from decide_eq_true (bP_n0.mp h30))]
                refine v_iload_n 2 dX3_cipheringStop_37 rfl rfl ?_
                refine v_iconst dX3_cipheringStop_38 ?_
                refine v_idiv dX3_cipheringStop_39 (by decide) (by decide) (by omega) ?_
                refine o_eqI (u := 0) (by decide) ?_
                refine v_ist2 dX3_cipheringStop_40 rfl ?_
                refine v_goto 17 dX3_cipheringStop_41 (by decide) ?_
                refine v_iload_n 2 dX3_cipheringStop_17 rfl rfl ?_
                refine v_if_le 44 dX3_cipheringStop_18 (by decide) (by decide) (fun h18 => ?_) (fun h18 => ?_)
                · skip
                  refine v_iload_n 1 dX3_cipheringStop_44 rfl rfl ?_
                  refine o_iret hQ hlk hrt dX3_cipheringStop_45 ?_
                  exact ⟨by rw [sSearch, if_neg g0, if_pos rfl, gd]; rfl, hF⟩
                · skip
                  exact absurd h18 (by decide)
              · skip
                have gd : sFd v = 1 := by rw [sFd, gb, if_neg (show ¬ sH v 0 1 = true from fun q => bP_0.mp h30 (of_decide_eq_true q))]
                refine v_iload_n 1 dX3_cipheringStop_33 rfl rfl ?_
                refine v_iload_n 2 dX3_cipheringStop_34 rfl rfl ?_
                refine v_iadd dX3_cipheringStop_35 ?_
                refine o_eqI (u := 1) (by decide) ?_
                refine v_ist1 dX3_cipheringStop_36 rfl ?_
                refine v_iload_n 2 dX3_cipheringStop_37 rfl rfl ?_
                refine v_iconst dX3_cipheringStop_38 ?_
                refine v_idiv dX3_cipheringStop_39 (by decide) (by decide) (by omega) ?_
                refine o_eqI (u := 0) (by decide) ?_
                refine v_ist2 dX3_cipheringStop_40 rfl ?_
                refine v_goto 17 dX3_cipheringStop_41 (by decide) ?_
                refine v_iload_n 2 dX3_cipheringStop_17 rfl rfl ?_
                refine v_if_le 44 dX3_cipheringStop_18 (by decide) (by decide) (fun h18 => ?_) (fun h18 => ?_)
                · skip
                  refine v_iload_n 1 dX3_cipheringStop_44 rfl rfl ?_
                  refine o_iret hQ hlk hrt dX3_cipheringStop_45 ?_
                  exact ⟨by rw [sSearch, if_neg g0, if_pos rfl, gd]; rfl, hF⟩
                · skip
                  exact absurd h18 (by decide)
          · skip
            have gb : sFb v = 2 := by rw [sFb, ga, if_neg (show ¬ sH v 0 2 = true from fun q => bP_0.mp h30 (of_decide_eq_true q))]
            refine v_iload_n 1 dX3_cipheringStop_33 rfl rfl ?_
            refine v_iload_n 2 dX3_cipheringStop_34 rfl rfl ?_
            refine v_iadd dX3_cipheringStop_35 ?_
            refine o_eqI (u := 2) (by decide) ?_
            refine v_ist1 dX3_cipheringStop_36 rfl ?_
            refine v_iload_n 2 dX3_cipheringStop_37 rfl rfl ?_
            refine v_iconst dX3_cipheringStop_38 ?_
            refine v_idiv dX3_cipheringStop_39 (by decide) (by decide) (by omega) ?_
            refine o_eqI (u := 1) (by decide) ?_
            refine v_ist2 dX3_cipheringStop_40 rfl ?_
            refine v_goto 17 dX3_cipheringStop_41 (by decide) ?_
            refine v_iload_n 2 dX3_cipheringStop_17 rfl rfl ?_
            refine v_if_le 44 dX3_cipheringStop_18 (by decide) (by decide) (fun h18 => ?_) (fun h18 => ?_)
            · skip
              exact absurd h18 (by decide)
            · skip
              refine v_aload_n 0 dX3_cipheringStop_21 rfl rfl ?_
              refine v_iload_n 1 dX3_cipheringStop_22 rfl rfl ?_
              refine v_iload_n 2 dX3_cipheringStop_23 rfl rfl ?_
              refine oSv2 (c_X3_rowOfStops (a := 2) (b := 1) (by decide)) k0_X3_rowOfStops ki_X3_rowOfStops ml_X3_268 (vRo_of hxR (by decide) (by decide)) dX3_cipheringStop_24 (Nat.le_of_ble_eq_true rfl) ?_
              refine oVq1 3 (c_X3_isHeard (st := sRow 2 1) hLN hXN hI (by decide)) k0_X3_isHeard ki_X3_isHeard ml_X3_265 (rfl : SH 0 = _) (by decide) (vRo_of hxR (by decide) (by decide)) dX3_cipheringStop_27 (Nat.le_of_ble_eq_true rfl) (fun N hN => ?_)
              have hF := fz_tr hF hN (fun i h1 h2 => ⟨h1, h2⟩)
              have hLN := fz_layX hF hLX
              have hXN := hX.keep (fun i h1 h2 => hF.2 i (by omega) (by omega))
              refine v_if_ne 37 dX3_cipheringStop_30 (by decide) (bP_R _) (fun h30 => ?_) (fun h30 => ?_)
              · skip
                have gd : sFd v = 2 := by rw [sFd, gb, if_pos (show sH v 2 1 = true from decide_eq_true (bP_n0.mp h30))]
                refine v_iload_n 2 dX3_cipheringStop_37 rfl rfl ?_
                refine v_iconst dX3_cipheringStop_38 ?_
                refine v_idiv dX3_cipheringStop_39 (by decide) (by decide) (by omega) ?_
                refine o_eqI (u := 0) (by decide) ?_
                refine v_ist2 dX3_cipheringStop_40 rfl ?_
                refine v_goto 17 dX3_cipheringStop_41 (by decide) ?_
                refine v_iload_n 2 dX3_cipheringStop_17 rfl rfl ?_
                refine v_if_le 44 dX3_cipheringStop_18 (by decide) (by decide) (fun h18 => ?_) (fun h18 => ?_)
                · skip
                  refine v_iload_n 1 dX3_cipheringStop_44 rfl rfl ?_
                  refine o_iret hQ hlk hrt dX3_cipheringStop_45 ?_
                  exact ⟨by rw [sSearch, if_neg g0, if_pos rfl, gd]; rfl, hF⟩
                · skip
                  exact absurd h18 (by decide)
              · skip
                have gd : sFd v = 3 := by rw [sFd, gb, if_neg (show ¬ sH v 2 1 = true from fun q => bP_0.mp h30 (of_decide_eq_true q))]
                refine v_iload_n 1 dX3_cipheringStop_33 rfl rfl ?_
                refine v_iload_n 2 dX3_cipheringStop_34 rfl rfl ?_
                refine v_iadd dX3_cipheringStop_35 ?_
                refine o_eqI (u := 3) (by decide) ?_
                refine v_ist1 dX3_cipheringStop_36 rfl ?_
                refine v_iload_n 2 dX3_cipheringStop_37 rfl rfl ?_
                refine v_iconst dX3_cipheringStop_38 ?_
                refine v_idiv dX3_cipheringStop_39 (by decide) (by decide) (by omega) ?_
                refine o_eqI (u := 0) (by decide) ?_
                refine v_ist2 dX3_cipheringStop_40 rfl ?_
                refine v_goto 17 dX3_cipheringStop_41 (by decide) ?_
                refine v_iload_n 2 dX3_cipheringStop_17 rfl rfl ?_
                refine v_if_le 44 dX3_cipheringStop_18 (by decide) (by decide) (fun h18 => ?_) (fun h18 => ?_)
                · skip
                  refine v_iload_n 1 dX3_cipheringStop_44 rfl rfl ?_
                  refine o_iret hQ hlk hrt dX3_cipheringStop_45 ?_
                  exact ⟨by rw [sSearch, if_neg g0, if_pos rfl, gd]; rfl, hF⟩
                · skip
                  exact absurd h18 (by decide)
      · skip
        have ga : sFa v = 4 := by rw [sFa, if_neg (show ¬ sH v 0 4 = true from fun q => bP_0.mp h30 (of_decide_eq_true q))]
        refine v_iload_n 1 dX3_cipheringStop_33 rfl rfl ?_
        refine v_iload_n 2 dX3_cipheringStop_34 rfl rfl ?_
        refine v_iadd dX3_cipheringStop_35 ?_
        refine o_eqI (u := 4) (by decide) ?_
        refine v_ist1 dX3_cipheringStop_36 rfl ?_
        refine v_iload_n 2 dX3_cipheringStop_37 rfl rfl ?_
        refine v_iconst dX3_cipheringStop_38 ?_
        refine v_idiv dX3_cipheringStop_39 (by decide) (by decide) (by omega) ?_
        refine o_eqI (u := 2) (by decide) ?_
        refine v_ist2 dX3_cipheringStop_40 rfl ?_
        refine v_goto 17 dX3_cipheringStop_41 (by decide) ?_
        refine v_iload_n 2 dX3_cipheringStop_17 rfl rfl ?_
        refine v_if_le 44 dX3_cipheringStop_18 (by decide) (by decide) (fun h18 => ?_) (fun h18 => ?_)
        · skip
          exact absurd h18 (by decide)
        · skip
          refine v_aload_n 0 dX3_cipheringStop_21 rfl rfl ?_
          refine v_iload_n 1 dX3_cipheringStop_22 rfl rfl ?_
          refine v_iload_n 2 dX3_cipheringStop_23 rfl rfl ?_
          refine oSv2 (c_X3_rowOfStops (a := 4) (b := 2) (by decide)) k0_X3_rowOfStops ki_X3_rowOfStops ml_X3_268 (vRo_of hxR (by decide) (by decide)) dX3_cipheringStop_24 (Nat.le_of_ble_eq_true rfl) ?_
          refine oVq1 3 (c_X3_isHeard (st := sRow 4 2) hLN hXN hI (by decide)) k0_X3_isHeard ki_X3_isHeard ml_X3_265 (rfl : SH 0 = _) (by decide) (vRo_of hxR (by decide) (by decide)) dX3_cipheringStop_27 (Nat.le_of_ble_eq_true rfl) (fun N hN => ?_)
          have hF := fz_tr hF hN (fun i h1 h2 => ⟨h1, h2⟩)
          have hLN := fz_layX hF hLX
          have hXN := hX.keep (fun i h1 h2 => hF.2 i (by omega) (by omega))
          refine v_if_ne 37 dX3_cipheringStop_30 (by decide) (bP_R _) (fun h30 => ?_) (fun h30 => ?_)
          · skip
            have gb : sFb v = 4 := by rw [sFb, ga, if_pos (show sH v 4 2 = true from decide_eq_true (bP_n0.mp h30))]
            refine v_iload_n 2 dX3_cipheringStop_37 rfl rfl ?_
            refine v_iconst dX3_cipheringStop_38 ?_
            refine v_idiv dX3_cipheringStop_39 (by decide) (by decide) (by omega) ?_
            refine o_eqI (u := 1) (by decide) ?_
            refine v_ist2 dX3_cipheringStop_40 rfl ?_
            refine v_goto 17 dX3_cipheringStop_41 (by decide) ?_
            refine v_iload_n 2 dX3_cipheringStop_17 rfl rfl ?_
            refine v_if_le 44 dX3_cipheringStop_18 (by decide) (by decide) (fun h18 => ?_) (fun h18 => ?_)
            · skip
              exact absurd h18 (by decide)
            · skip
              refine v_aload_n 0 dX3_cipheringStop_21 rfl rfl ?_
              refine v_iload_n 1 dX3_cipheringStop_22 rfl rfl ?_
              refine v_iload_n 2 dX3_cipheringStop_23 rfl rfl ?_
              refine oSv2 (c_X3_rowOfStops (a := 4) (b := 1) (by decide)) k0_X3_rowOfStops ki_X3_rowOfStops ml_X3_268 (vRo_of hxR (by decide) (by decide)) dX3_cipheringStop_24 (Nat.le_of_ble_eq_true rfl) ?_
              refine oVq1 3 (c_X3_isHeard (st := sRow 4 1) hLN hXN hI (by decide)) k0_X3_isHeard ki_X3_isHeard ml_X3_265 (rfl : SH 0 = _) (by decide) (vRo_of hxR (by decide) (by decide)) dX3_cipheringStop_27 (Nat.le_of_ble_eq_true rfl) (fun N hN => ?_)
              have hF := fz_tr hF hN (fun i h1 h2 => ⟨h1, h2⟩)
              have hLN := fz_layX hF hLX
              have hXN := hX.keep (fun i h1 h2 => hF.2 i (by omega) (by omega))
              refine v_if_ne 37 dX3_cipheringStop_30 (by decide) (bP_R _) (fun h30 => ?_) (fun h30 => ?_)
              · skip
                have gd : sFd v = 4 := by rw [sFd, gb, if_pos (show sH v 4 1 = true from decide_eq_true (bP_n0.mp h30))]
                refine v_iload_n 2 dX3_cipheringStop_37 rfl rfl ?_
                refine v_iconst dX3_cipheringStop_38 ?_
                refine v_idiv dX3_cipheringStop_39 (by decide) (by decide) (by omega) ?_
                refine o_eqI (u := 0) (by decide) ?_
                refine v_ist2 dX3_cipheringStop_40 rfl ?_
                refine v_goto 17 dX3_cipheringStop_41 (by decide) ?_
                refine v_iload_n 2 dX3_cipheringStop_17 rfl rfl ?_
                refine v_if_le 44 dX3_cipheringStop_18 (by decide) (by decide) (fun h18 => ?_) (fun h18 => ?_)
                · skip
                  refine v_iload_n 1 dX3_cipheringStop_44 rfl rfl ?_
                  refine o_iret hQ hlk hrt dX3_cipheringStop_45 ?_
                  exact ⟨by rw [sSearch, if_neg g0, if_pos rfl, gd]; rfl, hF⟩
                · skip
                  exact absurd h18 (by decide)
              · skip
                have gd : sFd v = 5 := by rw [sFd, gb, if_neg (show ¬ sH v 4 1 = true from fun q => bP_0.mp h30 (of_decide_eq_true q))]
                refine v_iload_n 1 dX3_cipheringStop_33 rfl rfl ?_
                refine v_iload_n 2 dX3_cipheringStop_34 rfl rfl ?_
                refine v_iadd dX3_cipheringStop_35 ?_
                refine o_eqI (u := 5) (by decide) ?_
                refine v_ist1 dX3_cipheringStop_36 rfl ?_
                refine v_iload_n 2 dX3_cipheringStop_37 rfl rfl ?_
                refine v_iconst dX3_cipheringStop_38 ?_
                refine v_idiv dX3_cipheringStop_39 (by decide) (by decide) (by omega) ?_
                refine o_eqI (u := 0) (by decide) ?_
                refine v_ist2 dX3_cipheringStop_40 rfl ?_
                refine v_goto 17 dX3_cipheringStop_41 (by decide) ?_
                refine v_iload_n 2 dX3_cipheringStop_17 rfl rfl ?_
                refine v_if_le 44 dX3_cipheringStop_18 (by decide) (by decide) (fun h18 => ?_) (fun h18 => ?_)
                · skip
                  refine v_iload_n 1 dX3_cipheringStop_44 rfl rfl ?_
                  refine o_iret hQ hlk hrt dX3_cipheringStop_45 ?_
                  exact ⟨by rw [sSearch, if_neg g0, if_pos rfl, gd]; rfl, hF⟩
                · skip
                  exact absurd h18 (by decide)
          · skip
            have gb : sFb v = 6 := by rw [sFb, ga, if_neg (show ¬ sH v 4 2 = true from fun q => bP_0.mp h30 (of_decide_eq_true q))]
            refine v_iload_n 1 dX3_cipheringStop_33 rfl rfl ?_
            refine v_iload_n 2 dX3_cipheringStop_34 rfl rfl ?_
            refine v_iadd dX3_cipheringStop_35 ?_
            refine o_eqI (u := 6) (by decide) ?_
            refine v_ist1 dX3_cipheringStop_36 rfl ?_
            refine v_iload_n 2 dX3_cipheringStop_37 rfl rfl ?_
            refine v_iconst dX3_cipheringStop_38 ?_
            refine v_idiv dX3_cipheringStop_39 (by decide) (by decide) (by omega) ?_
            refine o_eqI (u := 1) (by decide) ?_
            refine v_ist2 dX3_cipheringStop_40 rfl ?_
            refine v_goto 17 dX3_cipheringStop_41 (by decide) ?_
            refine v_iload_n 2 dX3_cipheringStop_17 rfl rfl ?_
            refine v_if_le 44 dX3_cipheringStop_18 (by decide) (by decide) (fun h18 => ?_) (fun h18 => ?_)
            · skip
              exact absurd h18 (by decide)
            · skip
              refine v_aload_n 0 dX3_cipheringStop_21 rfl rfl ?_
              refine v_iload_n 1 dX3_cipheringStop_22 rfl rfl ?_
              refine v_iload_n 2 dX3_cipheringStop_23 rfl rfl ?_
              refine oSv2 (c_X3_rowOfStops (a := 6) (b := 1) (by decide)) k0_X3_rowOfStops ki_X3_rowOfStops ml_X3_268 (vRo_of hxR (by decide) (by decide)) dX3_cipheringStop_24 (Nat.le_of_ble_eq_true rfl) ?_
              refine oVq1 3 (c_X3_isHeard (st := sRow 6 1) hLN hXN hI (by decide)) k0_X3_isHeard ki_X3_isHeard ml_X3_265 (rfl : SH 0 = _) (by decide) (vRo_of hxR (by decide) (by decide)) dX3_cipheringStop_27 (Nat.le_of_ble_eq_true rfl) (fun N hN => ?_)
              have hF := fz_tr hF hN (fun i h1 h2 => ⟨h1, h2⟩)
              have hLN := fz_layX hF hLX
              have hXN := hX.keep (fun i h1 h2 => hF.2 i (by omega) (by omega))
              refine v_if_ne 37 dX3_cipheringStop_30 (by decide) (bP_R _) (fun h30 => ?_) (fun h30 => ?_)
              · skip
                have gd : sFd v = 6 := by rw [sFd, gb, if_pos (show sH v 6 1 = true from decide_eq_true (bP_n0.mp h30))]
                refine v_iload_n 2 dX3_cipheringStop_37 rfl rfl ?_
                refine v_iconst dX3_cipheringStop_38 ?_
                refine v_idiv dX3_cipheringStop_39 (by decide) (by decide) (by omega) ?_
                refine o_eqI (u := 0) (by decide) ?_
                refine v_ist2 dX3_cipheringStop_40 rfl ?_
                refine v_goto 17 dX3_cipheringStop_41 (by decide) ?_
                refine v_iload_n 2 dX3_cipheringStop_17 rfl rfl ?_
                refine v_if_le 44 dX3_cipheringStop_18 (by decide) (by decide) (fun h18 => ?_) (fun h18 => ?_)
                · skip
                  refine v_iload_n 1 dX3_cipheringStop_44 rfl rfl ?_
                  refine o_iret hQ hlk hrt dX3_cipheringStop_45 ?_
                  exact ⟨by rw [sSearch, if_neg g0, if_pos rfl, gd]; rfl, hF⟩
                · skip
                  exact absurd h18 (by decide)
              · skip
                have gd : sFd v = 7 := by rw [sFd, gb, if_neg (show ¬ sH v 6 1 = true from fun q => bP_0.mp h30 (of_decide_eq_true q))]
                refine v_iload_n 1 dX3_cipheringStop_33 rfl rfl ?_
                refine v_iload_n 2 dX3_cipheringStop_34 rfl rfl ?_
                refine v_iadd dX3_cipheringStop_35 ?_
                refine o_eqI (u := 7) (by decide) ?_
                refine v_ist1 dX3_cipheringStop_36 rfl ?_
                refine v_iload_n 2 dX3_cipheringStop_37 rfl rfl ?_
                refine v_iconst dX3_cipheringStop_38 ?_
                refine v_idiv dX3_cipheringStop_39 (by decide) (by decide) (by omega) ?_
                refine o_eqI (u := 0) (by decide) ?_
                refine v_ist2 dX3_cipheringStop_40 rfl ?_
                refine v_goto 17 dX3_cipheringStop_41 (by decide) ?_
                refine v_iload_n 2 dX3_cipheringStop_17 rfl rfl ?_
                refine v_if_le 44 dX3_cipheringStop_18 (by decide) (by decide) (fun h18 => ?_) (fun h18 => ?_)
                · skip
                  refine v_iload_n 1 dX3_cipheringStop_44 rfl rfl ?_
                  refine o_iret hQ hlk hrt dX3_cipheringStop_45 ?_
                  exact ⟨by rw [sSearch, if_neg g0, if_pos rfl, gd]; rfl, hF⟩
                · skip
                  exact absurd h18 (by decide)
  · skip
    have g0 : sH v 0 8 = false := decide_eq_false (bP_0.mp h7)
    refine v_ldc (-1000005) kc_X3_148 (by decide) dX3_cipheringStop_10 ?_
    refine o_iret hQ hlk hrt dX3_cipheringStop_12 ?_
    exact ⟨by rw [sSearch, if_pos g0, if_neg (by decide)], hF⟩
set_option maxRecDepth 100000 in
set_option maxHeartbeats 400000 in
theorem c_X3_testsOfSearch {l : Launch} {G : vGG} {M : Mem} {v : Sg} (hLX : LayX M.2) (hX : XS 1 v M.1) (hI : sInv v) : Co l yX3_testsOfSearch cX3_testsOfSearch 3 (some .int) (rmo 6 138) G [aR (some 0)] M (fun r M' => r = some (aI (sSearch v 1)) ∧ fz 33 40 1 0 M M') := by
  refine Co.ofV (plainFor_of_name (by decide)) rfl rfl ?_
  intro x hxl hxR hlk hrt Q hQ
  have hF : fz 33 40 1 0 M M := fz_rf
  have hLN := hLX
  have hXN := hX
  show vO x Q G cX3_testsOfSearch RX3 0 [some (aR (some 0)), none, none] [] M
  refine v_iconst dX3_testsOfSearch_0 ?_
  refine v_ist1 dX3_testsOfSearch_1 rfl ?_
  refine v_aload_n 0 dX3_testsOfSearch_2 rfl rfl ?_
  refine v_sipush dX3_testsOfSearch_3 (by decide) ?_
  refine oVq1 3 (c_X3_isHeard (st := sRow 0 8) hLN hXN hI (by decide)) k0_X3_isHeard ki_X3_isHeard ml_X3_265 (rfl : SH 0 = _) (by decide) (vRo_of hxR (by decide) (by decide)) dX3_testsOfSearch_6 (Nat.le_of_ble_eq_true rfl) (fun N hN => ?_)
  have hF := fz_tr hF hN (fun i h1 h2 => ⟨h1, h2⟩)
  have hLN := fz_layX hF hLX
  have hXN := hX.keep (fun i h1 h2 => hF.2 i (by omega) (by omega))
  refine v_if_eq 28 dX3_testsOfSearch_9 (by decide) (bP_R _) (fun h9 => ?_) (fun h9 => ?_)
  · skip
    have g0 : sH v 0 8 = false := decide_eq_false (bP_0.mp h9)
    refine v_iload_n 1 dX3_testsOfSearch_28 rfl rfl ?_
    refine o_iret hQ hlk hrt dX3_testsOfSearch_29 ?_
    first | exact ⟨by rw [sSearch, if_pos g0, if_pos rfl], hF⟩ | exact ⟨by rw [sSearch, if_neg g0, if_neg (by decide), if_pos rfl]; rfl, hF⟩
  · skip
    have g0 : ¬ sH v 0 8 = false := by rw [show sH v 0 8 = true from decide_eq_true (bP_n0.mp h9)]; decide
    refine v_iconst dX3_testsOfSearch_12 ?_
    refine v_ist2 dX3_testsOfSearch_13 rfl ?_
    refine v_iload_n 2 dX3_testsOfSearch_14 rfl rfl ?_
    refine v_if_le 28 dX3_testsOfSearch_15 (by decide) (by decide) (fun h15 => ?_) (fun h15 => ?_)
    · skip
      exact absurd h15 (by decide)
    · skip
      refine v_iinc1 dX3_testsOfSearch_18 rfl ?_
      refine v_iload_n 2 dX3_testsOfSearch_21 rfl rfl ?_
      refine v_iconst dX3_testsOfSearch_22 ?_
      refine v_idiv dX3_testsOfSearch_23 (by decide) (by decide) (by omega) ?_
      refine o_eqI (u := 2) (by decide) ?_
      refine v_ist2 dX3_testsOfSearch_24 rfl ?_
      refine v_goto 14 dX3_testsOfSearch_25 (by decide) ?_
      refine v_iload_n 2 dX3_testsOfSearch_14 rfl rfl ?_
      refine v_if_le 28 dX3_testsOfSearch_15 (by decide) (by decide) (fun h15 => ?_) (fun h15 => ?_)
      · skip
        exact absurd h15 (by decide)
      · skip
        refine v_iinc1 dX3_testsOfSearch_18 rfl ?_
        refine v_iload_n 2 dX3_testsOfSearch_21 rfl rfl ?_
        refine v_iconst dX3_testsOfSearch_22 ?_
        refine v_idiv dX3_testsOfSearch_23 (by decide) (by decide) (by omega) ?_
        refine o_eqI (u := 1) (by decide) ?_
        refine v_ist2 dX3_testsOfSearch_24 rfl ?_
        refine v_goto 14 dX3_testsOfSearch_25 (by decide) ?_
        refine v_iload_n 2 dX3_testsOfSearch_14 rfl rfl ?_
        refine v_if_le 28 dX3_testsOfSearch_15 (by decide) (by decide) (fun h15 => ?_) (fun h15 => ?_)
        · skip
          exact absurd h15 (by decide)
        · skip
          refine v_iinc1 dX3_testsOfSearch_18 rfl ?_
          refine v_iload_n 2 dX3_testsOfSearch_21 rfl rfl ?_
          refine v_iconst dX3_testsOfSearch_22 ?_
          refine v_idiv dX3_testsOfSearch_23 (by decide) (by decide) (by omega) ?_
          refine o_eqI (u := 0) (by decide) ?_
          refine v_ist2 dX3_testsOfSearch_24 rfl ?_
          refine v_goto 14 dX3_testsOfSearch_25 (by decide) ?_
          refine v_iload_n 2 dX3_testsOfSearch_14 rfl rfl ?_
          refine v_if_le 28 dX3_testsOfSearch_15 (by decide) (by decide) (fun h15 => ?_) (fun h15 => ?_)
          · skip
            refine v_iload_n 1 dX3_testsOfSearch_28 rfl rfl ?_
            refine o_iret hQ hlk hrt dX3_testsOfSearch_29 ?_
            first | exact ⟨by rw [sSearch, if_pos g0, if_pos rfl], hF⟩ | exact ⟨by rw [sSearch, if_neg g0, if_neg (by decide), if_pos rfl]; rfl, hF⟩
          · skip
            exact absurd h15 (by decide)
set_option maxRecDepth 100000 in
set_option maxHeartbeats 400000 in
theorem c_X3_lowestCipher {l : Launch} {G : vGG} {M : Mem} {v : Sg} (hLX : LayX M.2) (hX : XS 1 v M.1) (hI : sInv v) {z : Int} (hz : R32 z) : Cv l yX3_lowestCipher cX3_lowestCipher 3 (some .int) (rmo 2 42) G [aR (some 0), aI z] M (some (aI (if 0 ≤ z ∧ z ≤ 7 then sLow (v (256 + z.toNat)).toNat else -1000005))) M := by
  refine Co.ofV (plainFor_of_name (by decide)) rfl rfl ?_
  intro x hxl hxR hlk hrt Q hQ
  show vO x Q G cX3_lowestCipher RX3 0 [some (aR (some 0)), some (aI z), none] [] M
  refine v_iconst dX3_lowestCipher_0 ?_
  refine v_ist2 dX3_lowestCipher_1 rfl ?_
  have lp2 : ∀ (dd k : Nat), k + dd = 24 → (0 ≤ z ∧ z ≤ 7 → sLoF (v (256 + z.toNat)).toNat dd k = sLow (v (256 + z.toNat)).toNat) → vO x Q G cX3_lowestCipher RX3 2 [some (aR (some 0)), some (aI z), some (aI (k : Int))] [] M := by
    intro dd
    induction dd with
    | zero =>
      intro k hd he
      obtain rfl : k = 24 := by omega
      refine v_iload_n 2 dX3_lowestCipher_2 rfl rfl ?_
      refine v_bipush dX3_lowestCipher_3 (by decide) ?_
      refine v_icmp_ge 39 dX3_lowestCipher_5 (by decide) (by omega) (by decide) (fun h5 => ?_) (fun h5 => ?_)
      · skip
        refine v_ldc (-1000005) kc_X3_148 (by decide) dX3_lowestCipher_39 ?_
        refine o_iret hQ hlk hrt dX3_lowestCipher_41 ?_
        first | exact ⟨by rw [if_neg ga], rfl⟩ | (by_cases ga : 0 ≤ z ∧ z ≤ 7; exact ⟨by rw [if_pos ga, ← he ga]; rfl, rfl⟩; exact ⟨by rw [if_neg ga], rfl⟩)
      · skip
        exact absurd h5 (by omega)
    | succ dd ih =>
      intro k hd he
      refine v_iload_n 2 dX3_lowestCipher_2 rfl rfl ?_
      refine v_bipush dX3_lowestCipher_3 (by decide) ?_
      refine v_icmp_ge 39 dX3_lowestCipher_5 (by decide) (by omega) (by decide) (fun h5 => ?_) (fun h5 => ?_)
      · skip
        exact absurd h5 (by omega)
      · skip
        refine v_iload_n 1 dX3_lowestCipher_8 rfl rfl ?_
        refine oSv1 (c_X3_isStop hz) k0_X3_isStop ki_X3_isStop ml_X3_47 (vRo_of hxR (by decide) (by decide)) dX3_lowestCipher_9 (Nat.le_of_ble_eq_true rfl) ?_
        refine v_if_eq 39 dX3_lowestCipher_12 (by decide) (bP_R _) (fun h12 => ?_) (fun h12 => ?_)
        · skip
          have ga := bP_0.mp h12
          refine v_ldc (-1000005) kc_X3_148 (by decide) dX3_lowestCipher_39 ?_
          refine o_iret hQ hlk hrt dX3_lowestCipher_41 ?_
          first | exact ⟨by rw [if_neg ga], rfl⟩ | (by_cases ga : 0 ≤ z ∧ z ≤ 7; exact ⟨by rw [if_pos ga, ← he ga]; rfl, rfl⟩; exact ⟨by rw [if_neg ga], rfl⟩)
        · skip
          have ga := bP_n0.mp h12
          have hcv := (iv_st hI (show z.toNat < 8 by omega)).2.2.2.2
          refine v_aload_n 0 dX3_lowestCipher_15 rfl rfl ?_
          refine v_getR lk_X3_10 rfl (rfl : SH 0 = _) (ow_0 hLX) dX3_lowestCipher_16 ?_
          refine v_getR lk_X3_103 rfl (st_o stB_1) (hLX.1 1 stB_1 4 (by decide)) dX3_lowestCipher_19 ?_
          refine v_iload_n 1 dX3_lowestCipher_22 rfl rfl ?_
          refine o_iald (j := z.toNat) (u := v (256 + (z.toNat))) (st_a4 stB_1) (by omega) (by omega) (xs_cip hX (by omega)) dX3_lowestCipher_23 ?_
          refine v_iload_n 2 dX3_lowestCipher_24 rfl rfl ?_
          refine oSv2 (c_X3_isIn hcv.1 (by omega) (by omega)) k0_X3_isIn ki_X3_isIn ml_X3_84 (vRo_of hxR (by decide) (by decide)) dX3_lowestCipher_25 (Nat.le_of_ble_eq_true rfl) ?_
          refine v_if_eq 33 dX3_lowestCipher_28 (by decide) (bP_R _) (fun h28 => ?_) (fun h28 => ?_)
          · skip
            have g28 : ¬ (v (256 + z.toNat)).toNat.testBit k = true := bP_0.mp h28
            refine v_iinc2 dX3_lowestCipher_33 rfl ?_
            refine v_goto 2 dX3_lowestCipher_36 (by decide) ?_
            exact ih (k + 1) (by omega) (fun _ => by rw [← he ga, sLoF, if_neg g28])
          · skip
            have g28 : (v (256 + z.toNat)).toNat.testBit k = true := bP_n0.mp h28
            refine v_iload_n 2 dX3_lowestCipher_31 rfl rfl ?_
            refine o_iret hQ hlk hrt dX3_lowestCipher_32 ?_
            exact ⟨by rw [if_pos ga, ← he ga, sLoF, if_pos g28], rfl⟩
  exact lp2 24 0 rfl (fun _ => rfl)
theorem sFd_lt (v : Sg) : sFd v < 8 := by
  have h1 : sFa v ≤ 4 := by unfold sFa; split <;> omega
  have h2 : sFb v ≤ sFa v + 2 := by unfold sFb; split <;> omega
  have h3 : sFd v ≤ sFb v + 1 := by unfold sFd; split <;> omega
  omega
theorem sSe_R (v : Sg) : R32 (sSearch v 0) := by
  have := sFd_lt v
  rw [sSearch]
  split
  · rw [if_neg (by decide)]; decide
  · rw [if_pos rfl]; omega
theorem sSe_2 (v : Sg) : (if 0 ≤ sSearch v 0 ∧ sSearch v 0 ≤ 7 then sLow (v (256 + (sSearch v 0).toNat)).toNat else -1000005) = sSearch v 2 := by
  have h := sFd_lt v
  by_cases g : sH v 0 8 = false
  · have e : sSearch v 0 = -1000005 := by rw [sSearch, if_pos g, if_neg (by decide)]
    rw [e, if_neg (by decide), sSearch, if_pos g, if_neg (by decide)]
  · have e : sSearch v 0 = ((sFd v : Nat) : Int) := by rw [sSearch, if_neg g, if_pos rfl]
    rw [e, if_pos (by omega), sSearch, if_neg g, if_neg (by decide), if_neg (by decide), Int.toNat_natCast]
set_option maxRecDepth 100000 in
set_option maxHeartbeats 400000 in
theorem c_X3_search {l : Launch} {G : vGG} {M : Mem} {v : Sg} (hLX : LayX M.2) (hX : XS 1 v M.1) (hI : sInv v) {w : Int} (hwR : R32 w) : Co l yX3_search cX3_search 2 (some .int) (rmo 7 160) G [aR (some 0), aI w] M (fun r M' => r = some (aI (aSearch v w)) ∧ fz 33 40 1 0 M M') := by
  refine Co.ofV (plainFor_of_name (by decide)) rfl rfl ?_
  intro x hxl hxR hlk hrt Q hQ
  show vO x Q G cX3_search RX3 0 [some (aR (some 0)), some (aI w)] [] M
  refine v_iload_n 1 dX3_search_0 rfl rfl ?_
  rcases (show w = 0 ∨ w = 1 ∨ w = 2 ∨ ¬ (0 ≤ w ∧ w ≤ 2) by omega) with rfl | rfl | rfl | hw
  · skip
    refine v_tableIn 28 dX3_search_1 (by decide) (by decide) (by decide) rfl (by decide) ?_
    refine v_aload_n 0 dX3_search_28 rfl rfl ?_
    refine oVq0 3 (c_X3_cipheringStop hLX hX hI) k0_X3_cipheringStop ki_X3_cipheringStop ml_X3_256 (rfl : SH 0 = _) (by decide) (vRo_of hxR (by decide) (by decide)) dX3_search_29 (Nat.le_of_ble_eq_true rfl) (fun N hN => ?_)
    refine o_iret hQ hlk hrt dX3_search_32 ?_
    exact ⟨rfl, hN⟩
  · skip
    refine v_tableIn 33 dX3_search_1 (by decide) (by decide) (by decide) rfl (by decide) ?_
    refine v_aload_n 0 dX3_search_33 rfl rfl ?_
    refine oVq0 3 (c_X3_testsOfSearch hLX hX hI) k0_X3_testsOfSearch ki_X3_testsOfSearch ml_X3_259 (rfl : SH 0 = _) (by decide) (vRo_of hxR (by decide) (by decide)) dX3_search_34 (Nat.le_of_ble_eq_true rfl) (fun N hN => ?_)
    refine o_iret hQ hlk hrt dX3_search_37 ?_
    exact ⟨rfl, hN⟩
  · skip
    refine v_tableIn 38 dX3_search_1 (by decide) (by decide) (by decide) rfl (by decide) ?_
    refine v_aload_n 0 dX3_search_38 rfl rfl ?_
    refine v_aload_n 0 dX3_search_39 rfl rfl ?_
    refine oVq0 3 (c_X3_cipheringStop hLX hX hI) k0_X3_cipheringStop ki_X3_cipheringStop ml_X3_256 (rfl : SH 0 = _) (by decide) (vRo_of hxR (by decide) (by decide)) dX3_search_40 (Nat.le_of_ble_eq_true rfl) (fun N hN => ?_)
    have hLN := fz_layX hN hLX
    have hXN := hX.keep (fun i h1 h2 => hN.2 i (by omega) (by omega))
    refine oVv1 3 (c_X3_lowestCipher hLN hXN hI (sSe_R v)) k0_X3_lowestCipher ki_X3_lowestCipher ml_X3_262 (rfl : SH 0 = _) (by decide) (vRo_of hxR (by decide) (by decide)) dX3_search_43 (Nat.le_of_ble_eq_true rfl) ?_
    refine o_iret hQ hlk hrt dX3_search_46 ?_
    exact ⟨by rw [sSe_2 v]; rfl, hN⟩
  · skip
    refine v_tableOut 47 dX3_search_1 (by omega) (by omega) (by decide) ?_
    refine v_ldc (-1000001) kc_X3_51 (by decide) dX3_search_47 ?_
    refine o_iret hQ hlk hrt dX3_search_49 ?_
    exact ⟨by unfold aSearch; rw [if_neg hw], fz_rf⟩
