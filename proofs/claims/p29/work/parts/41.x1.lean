/-! ===== the class: strokes ===== -/
theorem sDr_congr {v w : Sg} (h : ∀ s, s < 8 → w (24 + 5 * s + 3) = v (24 + 5 * s + 3)) : ∀ s, s ≤ 8 → sDr w s = sDr v s
  | 0, _ => rfl
  | s + 1, hs => by rw [sDr, sDr, sDr_congr h s (by omega), h s (by omega)]
theorem sDrw_congr {v w : Sg} (h : ∀ s, s < 8 → w (24 + 5 * s + 3) = v (24 + 5 * s + 3)) : sDrw w = sDrw v := sDr_congr h 8 (Nat.le_refl _)
theorem sGo_congr {v w : Sg} : ∀ n, (∀ s, s < n → w (24 + 5 * s + 4) = v (24 + 5 * s + 4)) → sGo w n = sGo v n
  | 0, _ => rfl
  | n + 1, h => by rw [sGo, sGo, sGo_congr n (fun s hs => h s (by omega)), h n (by omega)]
/-- only places 0, 13, 14, 16 .. 23 of the row are other -/
theorem XS.low {b : Nat} {v w : Sg} {f g : Nat → Nat → Int} (h : XS b v f) (e : ∀ i, (1 ≤ i ∧ i ≤ 12) ∨ i = 15 ∨ 24 ≤ i → w i = v i) (ea : ∀ i, b < i → i < b + 9 → g i = f i) (ed : ∀ k, k < 12 → g b k = f b k)
    (h8 : ∀ m, m < 2 → g (b + 1 + 8) m = w (18 + m)) (ho : g b 12 = w 0 ∧ g b 13 = w 13 ∧ g b 14 = w 14 ∧ g b 15 = w 16 ∧ g b 16 = 1 - w 17 ∧ g b 17 = w 20 ∧ g b 19 = w 22 ∧ (0 < w 22 → g b 18 = w 23 / w 21)) : XS b w g := by
  obtain ⟨h1, ⟨h2, h3, h4, h5⟩, ⟨h6, h7, h7b⟩, -, h9⟩ := h
  refine ⟨fun s hs => ?_, ⟨fun p hp => ?_, fun k hk => ?_, fun m hm => ?_, h8⟩, ⟨?_, ?_, ?_⟩, ho, ?_⟩
  · rw [ea (b + 1 + 0) (by omega) (by omega), ea (b + 1 + 1) (by omega) (by omega), ea (b + 1 + 2) (by omega) (by omega), ea (b + 1 + 3) (by omega) (by omega), ea (b + 1 + 4) (by omega) (by omega), e _ (by omega), e (24 + 5 * s + 1) (by omega), e (24 + 5 * s + 2) (by omega), e (24 + 5 * s + 4) (by omega), e (256 + s) (by omega)]
    exact h1 s hs
  · rw [ea (b + 1 + 5) (by omega) (by omega), e _ (by omega)]; exact h2 p hp
  · rw [ea (b + 1 + 6) (by omega) (by omega), e _ (by omega)]; exact h3 k hk
  · rw [ea (b + 1 + 7) (by omega) (by omega), e _ (by omega)]; exact h4 m hm
  · rw [ed 9 (by omega), sDrw_congr (fun s _ => e _ (by omega))]; exact h6
  · rw [ed 10 (by omega), e 10 (by omega)]; exact h7
  · rw [ed 11 (by omega), e 10 (by omega)]; exact h7b
  · rw [e 15 (by omega), sGo_congr 8 (fun s _ => e _ (by omega))]; exact h9
theorem sBeg_at {v : Sg} (hc : v 22 = 0 ∧ v 0 < v 6) (hb : 0 ≤ v 17 ∧ v 17 ≤ 1) : (∀ i, i < 17 ∨ 24 ≤ i → sBeg v i = v i) ∧ (∀ m, m < 2 → sBeg v (18 + m) = if m = (v 17).toNat then v (18 + m) + 1 else v (18 + m)) ∧ sBeg v 17 = 1 - v 17 ∧ sBeg v 23 = v 7 ∧ sBeg v 20 = v 7 ∧ sBeg v 21 = v 8 ∧ sBeg v 22 = v 8 := by
  refine ⟨fun i hi => ?_, fun m hm => ?_, ?_, ?_, ?_, ?_, ?_⟩ <;> rw [sBeg, if_pos hc]
  · rw [sup_ne _ _ (by omega), sup_ne _ _ (by omega), sup_ne _ _ (by omega), sup_ne _ _ (by omega), sup_ne _ _ (by omega), sup_ne _ _ (by omega)]
  · rw [sup_ne _ _ (by omega), sup_ne _ _ (by omega), sup_ne _ _ (by omega), sup_ne _ _ (by omega), sup_ne _ _ (by omega)]
    by_cases h : m = (v 17).toNat
    · rw [if_pos h, h, sup_eq]
    · rw [if_neg h, sup_ne _ _ (by omega)]
  · rw [sup_ne _ _ (by omega), sup_ne _ _ (by omega), sup_ne _ _ (by omega), sup_ne _ _ (by omega), sup_eq]
  · rw [sup_ne _ _ (by omega), sup_ne _ _ (by omega), sup_ne _ _ (by omega), sup_eq]
  · rw [sup_ne _ _ (by omega), sup_ne _ _ (by omega), sup_eq]
  · rw [sup_ne _ _ (by omega), sup_eq]
  · rw [sup_eq]
theorem sMak_at {v : Sg} (hc : 0 < v 22) : (∀ i, i ≠ 0 → i ≠ 14 → i ≠ 16 → i ≠ 20 → i ≠ 22 → sMak v i = v i) ∧ sMak v 22 = v 22 - 1 ∧ sMak v 20 = v 20 - sPart v ∧ sMak v 14 = v 14 + sPart v ∧ sMak v 16 = v 16 + sOver v ∧ sMak v 0 = v 0 + sPart v - sOver v := by
  refine ⟨fun i h0 h1 h2 h3 h4 => ?_, ?_, ?_, ?_, ?_, ?_⟩ <;> rw [sMak, if_pos hc]
  · rw [sup_ne _ _ (by omega), sup_ne _ _ (by omega), sup_ne _ _ (by omega), sup_ne _ _ (by omega), sup_ne _ _ (by omega), sup_ne _ _ (by omega)]
  · rw [sup_ne _ _ (by omega), sup_ne _ _ (by omega), sup_ne _ _ (by omega), sup_ne _ _ (by omega), sup_ne _ _ (by omega), sup_eq]
  · rw [sup_ne _ _ (by omega), sup_ne _ _ (by omega), sup_ne _ _ (by omega), sup_ne _ _ (by omega), sup_eq]
  · rw [sup_ne _ _ (by omega), sup_ne _ _ (by omega), sup_ne _ _ (by omega), sup_eq]
  · rw [sup_ne _ _ (by omega), sup_eq]
  · rw [sup_eq]
set_option maxRecDepth 100000 in
set_option maxHeartbeats 400000 in
theorem c_X0_beginStroke {l : Launch} {G : vGG} {M : Mem} {v : Sg} {b : Nat} (hb : stB b) (hLX : LayX M.2) (hX : XS b v M.1) (hI : sInv v) (hc : v 22 = 0 ∧ v 0 < v 6) : Co l yX0_beginStroke cX0_beginStroke 1 none (rmo 2 43) G [aR (some b)] M (fun r M' => r = none ∧ fz b (b + 10) 1 0 M M' ∧ XS b (sBeg v) M'.1) := by
  refine Co.ofV (plainFor_of_name (by decide)) rfl rfl ?_
  intro x hxl hxR hlk hrt Q hQ
  have hs := iv_set hI
  have hbe := iv_bel hI
  have ha := sBeg_at hc hbe.2.1
  have hbl := stB_lt hb
  show vO x Q G cX0_beginStroke RX0 0 [some (aR (some b))] [] M
  refine v_aload_n 0 dX0_beginStroke_0 rfl rfl ?_
  refine v_aload_n 0 dX0_beginStroke_1 rfl rfl ?_
  refine o_getI (u := (1 - v 17)) lk_X0_43 rfl (st_o hb) (xs_lf hX) dX0_beginStroke_2 ?_
  have jn13 : ∀ z : Int, z = v 17 → vO x Q G cX0_beginStroke RX0 13 [some (aR (some b))] [aI z, aR (some b)] M := by
    intro z hz
    subst hz
    refine v_putI lp_X0_43 rfl rfl (st_o hb) dX0_beginStroke_13 ?_
    refine v_aload_n 0 dX0_beginStroke_16 rfl rfl ?_
    refine v_getR lk_X0_36 rfl (st_o hb) (hLX.1 b hb 8 (by decide)) dX0_beginStroke_17 ?_
    refine v_aload_n 0 dX0_beginStroke_20 rfl rfl ?_
    refine o_getI (u := (((v 17).toNat : Nat) : Int)) lk_X0_43 rfl (st_o hb) (by dsimp only; rw [vup_s]; omega) dX0_beginStroke_21 ?_
    refine v_dup2 dX0_beginStroke_24 rfl rfl ?_
    refine o_iald (j := (v 17).toNat) (u := (v (18 + (v 17).toNat))) (st_a8 hb) (by omega) (by omega) (by dsimp only; (repeat (refine (vup_o (by omega)).trans ?_)); exact xs_sb hX (by omega)) dX0_beginStroke_25 ?_
    refine v_iconst dX0_beginStroke_26 ?_
    refine v_iadd dX0_beginStroke_27 ?_
    refine o_iast (j := (v 17).toNat) (by omega) (st_a8 hb) (by omega) (by omega) dX0_beginStroke_28 ?_
    refine v_aload_n 0 dX0_beginStroke_29 rfl rfl ?_
    refine v_aload_n 0 dX0_beginStroke_30 rfl rfl ?_
    refine v_getR lk_X0_30 rfl (st_o hb) (hLX.1 b hb 6 (by decide)) dX0_beginStroke_31 ?_
    refine v_bipush dX0_beginStroke_34 (by decide) ?_
    refine o_iald (j := 6) (u := (v 7)) (st_a6 hb) (by omega) (by omega) (by dsimp only; (repeat (refine (vup_o (by omega)).trans ?_)); exact xs_set hX (k := 6) (by decide)) dX0_beginStroke_36 ?_
    refine v_putI lp_X0_74 rfl rfl (st_o hb) dX0_beginStroke_37 ?_
    refine v_aload_n 0 dX0_beginStroke_40 rfl rfl ?_
    refine v_aload_n 0 dX0_beginStroke_41 rfl rfl ?_
    refine v_getR lk_X0_30 rfl (st_o hb) (hLX.1 b hb 6 (by decide)) dX0_beginStroke_42 ?_
    refine v_bipush dX0_beginStroke_45 (by decide) ?_
    refine o_iald (j := 7) (u := (v 8)) (st_a6 hb) (by omega) (by omega) (by dsimp only; (repeat (refine (vup_o (by omega)).trans ?_)); exact xs_set hX (k := 7) (by decide)) dX0_beginStroke_47 ?_
    refine v_putI lp_X0_80 rfl rfl (st_o hb) dX0_beginStroke_48 ?_
    refine v_aload_n 0 dX0_beginStroke_51 rfl rfl ?_
    refine v_aload_n 0 dX0_beginStroke_52 rfl rfl ?_
    refine o_getI (u := (v 7)) lk_X0_74 rfl (st_o hb) (by dsimp only; (repeat (refine (vup_o (by omega)).trans ?_)); exact vup_s _ _ _ _) dX0_beginStroke_53 ?_
    refine v_aload_n 0 dX0_beginStroke_56 rfl rfl ?_
    refine o_getI (u := (v 8)) lk_X0_80 rfl (st_o hb) (by dsimp only; exact vup_s _ _ _ _) dX0_beginStroke_57 ?_
    refine oSNv2 (c_X3_divide (by omega) (by omega)) k0_X3_divide ki_X3_divide ml_X0_84 (vRo_of hxR (by decide) (by decide)) dX0_beginStroke_60 (Nat.le_of_ble_eq_true rfl) ?_
    refine v_putI lp_X0_77 rfl rfl (st_o hb) dX0_beginStroke_63 ?_
    refine o_ret hQ hlk hrt dX0_beginStroke_66 ?_
    refine ⟨rfl, ⟨rfl, fun i h1 h2 => by funext k; dsimp only; (repeat (refine (vup_o (by omega)).trans ?_)); rfl⟩, hX.low (fun i hi => ha.1 i (by omega)) (fun i h1 h2 => by funext k; dsimp only; (repeat (refine (vup_o (by omega)).trans ?_)); rfl) (fun k hk => by dsimp only; (repeat (refine (vup_o (by omega)).trans ?_)); rfl) (fun m hm => ?_) ⟨?_, ?_, ?_, ?_, ?_, ?_, ?_, fun _ => ?_⟩⟩
    · rw [ha.2.1 m hm]
      dsimp only
      refine (vup_o (by omega)).trans ((vup_o (by omega)).trans ((vup_o (by omega)).trans ?_))
      rw [vup_in]
      split
      · rename_i h
        rw [h]
      · exact (vup_o (by omega)).trans (xs_sb hX hm)
    · rw [ha.1 0 (by omega)]
      dsimp only
      (repeat (refine (vup_o (by omega)).trans ?_))
      exact xs_vol hX
    · rw [ha.1 13 (by omega)]
      dsimp only
      (repeat (refine (vup_o (by omega)).trans ?_))
      exact xs_tim hX
    · rw [ha.1 14 (by omega)]
      dsimp only
      (repeat (refine (vup_o (by omega)).trans ?_))
      exact xs_mad hX
    · rw [ha.1 16 (by omega)]
      dsimp only
      (repeat (refine (vup_o (by omega)).trans ?_))
      exact xs_spi hX
    · rw [ha.2.2.1]
      dsimp only
      (repeat (refine (vup_o (by omega)).trans ?_))
      exact (vup_s _ _ _ _).trans (by omega)
    · rw [ha.2.2.2.2.1]
      dsimp only
      (repeat (refine (vup_o (by omega)).trans ?_))
      exact vup_s _ _ _ _
    · rw [ha.2.2.2.2.2.2]
      dsimp only
      (repeat (refine (vup_o (by omega)).trans ?_))
      exact vup_s _ _ _ _
    · rw [ha.2.2.2.1, ha.2.2.2.2.2.1]
      dsimp only
      (repeat (refine (vup_o (by omega)).trans ?_))
      exact vup_s _ _ _ _
  refine v_if_ne 12 dX0_beginStroke_5 (by decide) (by omega) (fun h5 => ?_) (fun h5 => ?_)
  · skip
    refine v_iconst dX0_beginStroke_12 ?_
    exact jn13 _ (by omega)
  · skip
    refine v_iconst dX0_beginStroke_8 ?_
    refine v_goto 13 dX0_beginStroke_9 (by decide) ?_
    exact jn13 _ (by omega)
set_option maxRecDepth 100000 in
set_option maxHeartbeats 400000 in
theorem c_X0_makePart {l : Launch} {G : vGG} {M : Mem} {v : Sg} {b : Nat} (hb : stB b) (hLX : LayX M.2) (hX : XS b v M.1) (hI : sInv v) (hc : 0 < v 22) : Co l yX0_makePart cX0_makePart 2 none (rmo 0 0) G [aR (some b)] M (fun r M' => r = none ∧ fz b (b + 10) 1 0 M M' ∧ XS b (sMak v) M'.1) := by
  refine Co.ofV (plainFor_of_name (by decide)) rfl rfl ?_
  intro x hxl hxR hlk hrt Q hQ
  have hs := iv_set hI
  have hbe := iv_bel hI
  have ha := sMak_at hc
  have hpb := sPart_b hI hc
  show vO x Q G cX0_makePart RX0 0 [some (aR (some b)), none] [] M
  refine v_aload_n 0 dX0_makePart_0 rfl rfl ?_
  refine o_getI (u := (v 22)) lk_X0_80 rfl (st_o hb) (xs_st hX) dX0_makePart_1 ?_
  refine v_iconst dX0_makePart_4 ?_
  have jn19 : ∀ z : Int, z = sPart v → vO x Q G cX0_makePart RX0 19 [some (aR (some b)), none] [aI z] M := by
    intro z hz
    subst hz
    refine v_ist1 dX0_makePart_19 rfl ?_
    refine v_aload_n 0 dX0_makePart_20 rfl rfl ?_
    refine v_dup dX0_makePart_21 rfl ?_
    refine o_getI (u := (v 22)) lk_X0_80 rfl (st_o hb) (xs_st hX) dX0_makePart_22 ?_
    refine v_iconst dX0_makePart_25 ?_
    refine v_isub dX0_makePart_26 ?_
    refine v_putI lp_X0_80 rfl rfl (st_o hb) dX0_makePart_27 ?_
    refine v_aload_n 0 dX0_makePart_30 rfl rfl ?_
    refine v_dup dX0_makePart_31 rfl ?_
    refine o_getI (u := (v 20)) lk_X0_74 rfl (st_o hb) (by dsimp only; (repeat (refine (vup_o (by omega)).trans ?_)); first | exact xs_sl hX | exact vup_s _ _ _ _ | exact (vup_s _ _ _ _).trans (xs_sl hX)) dX0_makePart_32 ?_
    refine v_iload_n 1 dX0_makePart_35 rfl rfl ?_
    refine v_isub dX0_makePart_36 ?_
    refine v_putI lp_X0_74 rfl rfl (st_o hb) dX0_makePart_37 ?_
    refine v_aload_n 0 dX0_makePart_40 rfl rfl ?_
    refine v_dup dX0_makePart_41 rfl ?_
    refine o_getI (u := (v 14)) lk_X0_68 rfl (st_o hb) (by dsimp only; (repeat (refine (vup_o (by omega)).trans ?_)); first | exact xs_mad hX | exact vup_s _ _ _ _ | exact (vup_s _ _ _ _).trans (xs_mad hX)) dX0_makePart_42 ?_
    refine v_iload_n 1 dX0_makePart_45 rfl rfl ?_
    refine v_iadd dX0_makePart_46 ?_
    refine v_putI lp_X0_68 rfl rfl (st_o hb) dX0_makePart_47 ?_
    refine v_aload_n 0 dX0_makePart_50 rfl rfl ?_
    refine v_dup dX0_makePart_51 rfl ?_
    refine o_getI (u := (v 0)) lk_X0_39 rfl (st_o hb) (by dsimp only; (repeat (refine (vup_o (by omega)).trans ?_)); first | exact xs_vol hX | exact vup_s _ _ _ _ | exact (vup_s _ _ _ _).trans (xs_vol hX)) dX0_makePart_52 ?_
    refine v_iload_n 1 dX0_makePart_55 rfl rfl ?_
    refine v_iadd dX0_makePart_56 ?_
    refine v_putI lp_X0_39 rfl rfl (st_o hb) dX0_makePart_57 ?_
    refine v_aload_n 0 dX0_makePart_60 rfl rfl ?_
    refine o_getI (u := (v 0 + sPart v)) lk_X0_39 rfl (st_o hb) (by dsimp only; (repeat (refine (vup_o (by omega)).trans ?_)); first | exact rfl | exact vup_s _ _ _ _ | exact (vup_s _ _ _ _).trans (rfl)) dX0_makePart_61 ?_
    refine v_aload_n 0 dX0_makePart_64 rfl rfl ?_
    refine v_getR lk_X0_30 rfl (st_o hb) (hLX.1 b hb 6 (by decide)) dX0_makePart_65 ?_
    refine v_iconst dX0_makePart_68 ?_
    refine o_iald (j := 4) (u := (v 5)) (st_a6 hb) (by omega) (by omega) (by dsimp only; (repeat (refine (vup_o (by omega)).trans ?_)); exact xs_set hX (k := 4) (by decide)) dX0_makePart_69 ?_
    refine v_icmp_le 103 dX0_makePart_70 (by decide) (by omega) (by omega) (fun h70 => ?_) (fun h70 => ?_)
    · skip
      have ho : sOver v = max 0 (v 0 + sPart v - v 5) := rfl
      refine o_ret hQ hlk hrt dX0_makePart_103 ?_
      refine ⟨rfl, ⟨rfl, fun i h1 h2 => by funext k; dsimp only; (repeat (refine (vup_o (by omega)).trans ?_)); rfl⟩, hX.low (fun i hi => ha.1 i (by omega) (by omega) (by omega) (by omega) (by omega)) (fun i h1 h2 => by funext k; dsimp only; (repeat (refine (vup_o (by omega)).trans ?_)); rfl) (fun k hk => by dsimp only; (repeat (refine (vup_o (by omega)).trans ?_)); rfl) (fun m hm => ?_) ⟨?_, ?_, ?_, ?_, ?_, ?_, ?_, fun _ => ?_⟩⟩
      · rw [ha.1 (18 + m) (by omega) (by omega) (by omega) (by omega) (by omega)]
        dsimp only
        (repeat (refine (vup_o (by omega)).trans ?_))
        exact xs_sb hX hm
      · rw [ha.2.2.2.2.2]
        dsimp only
        (repeat (refine (vup_o (by omega)).trans ?_))
        exact (vup_s _ _ _ _).trans (by omega)
      · rw [ha.1 13 (by omega) (by omega) (by omega) (by omega) (by omega)]
        dsimp only
        (repeat (refine (vup_o (by omega)).trans ?_))
        exact xs_tim hX
      · rw [ha.2.2.2.1]
        dsimp only
        (repeat (refine (vup_o (by omega)).trans ?_))
        exact vup_s _ _ _ _
      · rw [ha.2.2.2.2.1]
        dsimp only
        (repeat (refine (vup_o (by omega)).trans ?_))
        first | exact (vup_s _ _ _ _).trans (by omega) | exact (xs_spi hX).trans (by omega)
      · rw [ha.1 17 (by omega) (by omega) (by omega) (by omega) (by omega)]
        dsimp only
        (repeat (refine (vup_o (by omega)).trans ?_))
        exact xs_lf hX
      · rw [ha.2.2.1]
        dsimp only
        (repeat (refine (vup_o (by omega)).trans ?_))
        exact vup_s _ _ _ _
      · rw [ha.2.1]
        dsimp only
        (repeat (refine (vup_o (by omega)).trans ?_))
        exact vup_s _ _ _ _
      · rw [ha.1 23 (by omega) (by omega) (by omega) (by omega) (by omega), ha.1 21 (by omega) (by omega) (by omega) (by omega) (by omega)]
        dsimp only
        (repeat (refine (vup_o (by omega)).trans ?_))
        exact xs_sp hX hc
    · skip
      refine v_aload_n 0 dX0_makePart_73 rfl rfl ?_
      refine v_dup dX0_makePart_74 rfl ?_
      refine o_getI (u := (v 16)) lk_X0_71 rfl (st_o hb) (by dsimp only; (repeat (refine (vup_o (by omega)).trans ?_)); first | exact xs_spi hX | exact vup_s _ _ _ _ | exact (vup_s _ _ _ _).trans (xs_spi hX)) dX0_makePart_75 ?_
      refine v_aload_n 0 dX0_makePart_78 rfl rfl ?_
      refine o_getI (u := (v 0 + sPart v)) lk_X0_39 rfl (st_o hb) (by dsimp only; (repeat (refine (vup_o (by omega)).trans ?_)); first | exact rfl | exact vup_s _ _ _ _ | exact (vup_s _ _ _ _).trans (rfl)) dX0_makePart_79 ?_
      refine v_aload_n 0 dX0_makePart_82 rfl rfl ?_
      refine v_getR lk_X0_30 rfl (st_o hb) (hLX.1 b hb 6 (by decide)) dX0_makePart_83 ?_
      refine v_iconst dX0_makePart_86 ?_
      refine o_iald (j := 4) (u := (v 5)) (st_a6 hb) (by omega) (by omega) (by dsimp only; (repeat (refine (vup_o (by omega)).trans ?_)); exact xs_set hX (k := 4) (by decide)) dX0_makePart_87 ?_
      refine v_isub dX0_makePart_88 ?_
      refine v_iadd dX0_makePart_89 ?_
      refine v_putI lp_X0_71 rfl rfl (st_o hb) dX0_makePart_90 ?_
      refine v_aload_n 0 dX0_makePart_93 rfl rfl ?_
      refine v_aload_n 0 dX0_makePart_94 rfl rfl ?_
      refine v_getR lk_X0_30 rfl (st_o hb) (hLX.1 b hb 6 (by decide)) dX0_makePart_95 ?_
      refine v_iconst dX0_makePart_98 ?_
      refine o_iald (j := 4) (u := (v 5)) (st_a6 hb) (by omega) (by omega) (by dsimp only; (repeat (refine (vup_o (by omega)).trans ?_)); exact xs_set hX (k := 4) (by decide)) dX0_makePart_99 ?_
      refine v_putI lp_X0_39 rfl rfl (st_o hb) dX0_makePart_100 ?_
      have ho : sOver v = max 0 (v 0 + sPart v - v 5) := rfl
      refine o_ret hQ hlk hrt dX0_makePart_103 ?_
      refine ⟨rfl, ⟨rfl, fun i h1 h2 => by funext k; dsimp only; (repeat (refine (vup_o (by omega)).trans ?_)); rfl⟩, hX.low (fun i hi => ha.1 i (by omega) (by omega) (by omega) (by omega) (by omega)) (fun i h1 h2 => by funext k; dsimp only; (repeat (refine (vup_o (by omega)).trans ?_)); rfl) (fun k hk => by dsimp only; (repeat (refine (vup_o (by omega)).trans ?_)); rfl) (fun m hm => ?_) ⟨?_, ?_, ?_, ?_, ?_, ?_, ?_, fun _ => ?_⟩⟩
      · rw [ha.1 (18 + m) (by omega) (by omega) (by omega) (by omega) (by omega)]
        dsimp only
        (repeat (refine (vup_o (by omega)).trans ?_))
        exact xs_sb hX hm
      · rw [ha.2.2.2.2.2]
        dsimp only
        (repeat (refine (vup_o (by omega)).trans ?_))
        exact (vup_s _ _ _ _).trans (by omega)
      · rw [ha.1 13 (by omega) (by omega) (by omega) (by omega) (by omega)]
        dsimp only
        (repeat (refine (vup_o (by omega)).trans ?_))
        exact xs_tim hX
      · rw [ha.2.2.2.1]
        dsimp only
        (repeat (refine (vup_o (by omega)).trans ?_))
        exact vup_s _ _ _ _
      · rw [ha.2.2.2.2.1]
        dsimp only
        (repeat (refine (vup_o (by omega)).trans ?_))
        first | exact (vup_s _ _ _ _).trans (by omega) | exact (xs_spi hX).trans (by omega)
      · rw [ha.1 17 (by omega) (by omega) (by omega) (by omega) (by omega)]
        dsimp only
        (repeat (refine (vup_o (by omega)).trans ?_))
        exact xs_lf hX
      · rw [ha.2.2.1]
        dsimp only
        (repeat (refine (vup_o (by omega)).trans ?_))
        exact vup_s _ _ _ _
      · rw [ha.2.1]
        dsimp only
        (repeat (refine (vup_o (by omega)).trans ?_))
        exact vup_s _ _ _ _
      · rw [ha.1 23 (by omega) (by omega) (by omega) (by omega) (by omega), ha.1 21 (by omega) (by omega) (by omega) (by omega) (by omega)]
        dsimp only
        (repeat (refine (vup_o (by omega)).trans ?_))
        exact xs_sp hX hc
  refine v_icmp_ne 15 dX0_makePart_5 (by decide) (by omega) (by decide) (fun h5 => ?_) (fun h5 => ?_)
  · skip
    refine v_aload_n 0 dX0_makePart_15 rfl rfl ?_
    refine o_getI (u := (v 23 / v 21)) lk_X0_77 rfl (st_o hb) (xs_sp hX hc) dX0_makePart_16 ?_
    first | exact jn19 _ (by rw [sPart, if_pos h5]) | exact jn19 _ (by rw [sPart, if_neg h5])
  · skip
    refine v_aload_n 0 dX0_makePart_8 rfl rfl ?_
    refine o_getI (u := (v 20)) lk_X0_74 rfl (st_o hb) (xs_sl hX) dX0_makePart_9 ?_
    refine v_goto 19 dX0_makePart_12 (by decide) ?_
    first | exact jn19 _ (by rw [sPart, if_pos h5]) | exact jn19 _ (by rw [sPart, if_neg h5])
set_option maxRecDepth 100000 in
set_option maxHeartbeats 400000 in
theorem c_X0_pump {l : Launch} {G : vGG} {M : Mem} {v : Sg} {b : Nat} (hb : stB b) (hLX : LayX M.2) (hX : XS b v M.1) (hI : sInv v) : Co l yX0_pump cX0_pump 1 none (rmo 3 63) G [aR (some b)] M (fun r M' => r = none ∧ fz b (b + 10) 1 0 M M' ∧ XS b (sPmp v) M'.1) := by
  refine Co.ofV (plainFor_of_name (by decide)) rfl rfl ?_
  intro x hxl hxR hlk hrt Q hQ
  have hs := iv_set hI
  have hbe := iv_bel hI
  show vO x Q G cX0_pump RX0 0 [some (aR (some b))] [] M
  refine v_aload_n 0 dX0_pump_0 rfl rfl ?_
  refine o_getI (u := (v 22)) lk_X0_80 rfl (st_o hb) (xs_st hX) dX0_pump_1 ?_
  have jn24 : ∀ K : Mem, fz b (b + 10) 1 0 M K → XS b (sBeg v) K.1 → vO x Q G cX0_pump RX0 24 [some (aR (some b))] [] K := by
    intro K hF hX
    have hLK := fz_layX hF hLX
    have hI := sBeg_inv hI
    have hbe := iv_bel hI
    refine v_aload_n 0 dX0_pump_24 rfl rfl ?_
    refine o_getI (u := (sBeg v 22)) lk_X0_80 rfl (st_o hb) (xs_st hX) dX0_pump_25 ?_
    refine v_if_le 35 dX0_pump_28 (by decide) (by omega) (fun h28 => ?_) (fun h28 => ?_)
    · skip
      refine o_ret hQ hlk hrt dX0_pump_35 ?_
      first | exact ⟨rfl, fz_tr hF hF2 (fun i h1 h2 => ⟨h1, h2⟩), hX2⟩ | exact ⟨rfl, hF, by rw [sPmp, sMak, if_neg (by omega)]; exact hX⟩
    · skip
      refine v_aload_n 0 dX0_pump_31 rfl rfl ?_
      refine oVm0 0 (c_X0_makePart hb hLK hX hI (by omega)) k0_X0_makePart ki_X0_makePart ml_X0_91 (st_o hb) (by decide) (vRo_of hxR (by decide) (by decide)) dX0_pump_32 (Nat.le_of_ble_eq_true rfl) (fun N hN => ?_)
      obtain ⟨hF2, hX2⟩ := hN
      refine o_ret hQ hlk hrt dX0_pump_35 ?_
      first | exact ⟨rfl, fz_tr hF hF2 (fun i h1 h2 => ⟨h1, h2⟩), hX2⟩ | exact ⟨rfl, hF, by rw [sPmp, sMak, if_neg (by omega)]; exact hX⟩
  refine v_if_ne 24 dX0_pump_4 (by decide) (by omega) (fun h4 => ?_) (fun h4 => ?_)
  · skip
    first | exact jn24 _ fz_rf (by rw [sBeg, if_neg (fun q => h4 q.1)]; exact hX) | exact jn24 _ fz_rf (by rw [sBeg, if_neg (fun q => by omega)]; exact hX) | exact jn24 _ hF hX2
  · skip
    refine v_aload_n 0 dX0_pump_7 rfl rfl ?_
    refine o_getI (u := (v 0)) lk_X0_39 rfl (st_o hb) (xs_vol hX) dX0_pump_8 ?_
    refine v_aload_n 0 dX0_pump_11 rfl rfl ?_
    refine v_getR lk_X0_30 rfl (st_o hb) (hLX.1 b hb 6 (by decide)) dX0_pump_12 ?_
    refine v_iconst dX0_pump_15 ?_
    refine o_iald (j := 5) (u := (v 6)) (st_a6 hb) (by omega) (by omega) (xs_set hX (k := 5) (by decide)) dX0_pump_16 ?_
    refine v_icmp_ge 24 dX0_pump_17 (by decide) (by omega) (by omega) (fun h17 => ?_) (fun h17 => ?_)
    · skip
      first | exact jn24 _ fz_rf (by rw [sBeg, if_neg (fun q => h4 q.1)]; exact hX) | exact jn24 _ fz_rf (by rw [sBeg, if_neg (fun q => by omega)]; exact hX) | exact jn24 _ hF hX2
    · skip
      refine v_aload_n 0 dX0_pump_20 rfl rfl ?_
      refine oVm0 0 (c_X0_beginStroke hb hLX hX hI ⟨h4, h17⟩) k0_X0_beginStroke ki_X0_beginStroke ml_X0_88 (st_o hb) (by decide) (vRo_of hxR (by decide) (by decide)) dX0_pump_21 (Nat.le_of_ble_eq_true rfl) (fun N hN => ?_)
      obtain ⟨hF, hX2⟩ := hN
      first | exact jn24 _ fz_rf (by rw [sBeg, if_neg (fun q => h4 q.1)]; exact hX) | exact jn24 _ fz_rf (by rw [sBeg, if_neg (fun q => by omega)]; exact hX) | exact jn24 _ hF hX2
