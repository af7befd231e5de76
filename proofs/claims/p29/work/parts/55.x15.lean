/-! ===== the class: draw, couple, cipher ===== -/
theorem dra_drw {v : Sg} (hI : sInv v) {s : Nat} (hs : s < 8) (on : Int) : sDrw (sDra v s on) = wth (sDrw v) s (decide (on ≠ 0)) := by
  have hw := dra_inv hI hs on
  have h1 := sDrw_lt hw
  have h2 := wth_lt8 (s := sDrw v) (k := s) (decide (on ≠ 0)) (sDrw_lt hI) hs
  refine Nat.eq_of_testBit_eq fun j => ?_
  by_cases hj : j < 8
  · have a : (sDrw (sDra v s on)).testBit j = true ↔ sDra v s on (24 + 5 * j + 3) = 1 := sDr_bit hw 8 (Nat.le_refl _) j hj
    have b : (sDrw v).testBit j = true ↔ v (24 + 5 * j + 3) = 1 := sDr_bit hI 8 (Nat.le_refl _) j hj
    rw [wth_bit _ (by omega) j (by omega)]
    by_cases e : j = s
    · subst e
      rw [if_pos rfl]
      rw [show sDra v j on (24 + 5 * j + 3) = bP (on ≠ 0) from sup_eq _ _ _] at a
      rw [Bool.eq_iff_iff, decide_eq_true_eq, a]
      exact bP_1
    · rw [if_neg e, Bool.eq_iff_iff, a, b, sDra, sup_ne _ _ (by omega)]
  · rw [Nat.testBit_lt_two_pow (Nat.lt_of_lt_of_le h1 (Nat.pow_le_pow_right (show 0 < 2 by decide) (show 8 ≤ j by omega))), Nat.testBit_lt_two_pow (Nat.lt_of_lt_of_le h2 (Nat.pow_le_pow_right (show 0 < 2 by decide) (show 8 ≤ j by omega)))]
theorem xs_udrw {b : Nat} {v : Sg} {f : Nat → Nat → Int} (h : XS b v f) (hI : sInv v) {s : Nat} (hs : s < 8) (on : Int) : XS b (sDra v s on) (vup f b 9 ((wth (sDrw v) s (decide (on ≠ 0)) : Nat) : Int)) := by
  have e : ∀ i, i ≠ 24 + 5 * s + 3 → sDra v s on i = v i := fun i hi => sup_ne _ _ hi
  have c : ∀ k t, vup f b 9 ((wth (sDrw v) s (decide (on ≠ 0)) : Nat) : Int) (b + 1 + k) t = f (b + 1 + k) t := fun k t => vup_o (by omega)
  have d : ∀ t, t ≠ 9 → vup f b 9 ((wth (sDrw v) s (decide (on ≠ 0)) : Nat) : Int) b t = f b t := fun t ht => vup_o (by omega)
  refine ⟨fun t ht => ⟨?_, ?_, ?_, ?_, ?_⟩, ⟨fun t ht => ?_, fun t ht => ?_, fun t ht => ?_, fun t ht => ?_⟩, ⟨?_, ?_, ?_⟩, ⟨?_, ?_, ?_, ?_, ?_, ?_, ?_, fun q => ?_⟩, ?_⟩
  · rw [c, e _ (by omega)]; exact xs_man h ht
  · rw [c, e _ (by omega)]; exact xs_dem h ht
  · rw [c, e _ (by omega)]; exact xs_lea h ht
  · rw [c, e _ (by omega)]; exact xs_got h ht
  · rw [c, e _ (by omega)]; exact xs_cip h ht
  · rw [c, e _ (by omega)]; exact xs_off h ht
  · rw [c, e _ (by omega)]; exact xs_set h ht
  · rw [c, e _ (by omega)]; exact xs_pre h ht
  · rw [c, e _ (by omega)]; exact xs_sb h ht
  · rw [vup_s, dra_drw hI hs]
  · rw [d _ (by decide), e _ (by omega)]; exact xs_mc h
  · rw [d _ (by decide), e _ (by omega)]; exact xs_oc h
  · rw [d _ (by decide), e _ (by omega)]; exact xs_vol h
  · rw [d _ (by decide), e _ (by omega)]; exact xs_tim h
  · rw [d _ (by decide), e _ (by omega)]; exact xs_mad h
  · rw [d _ (by decide), e _ (by omega)]; exact xs_spi h
  · rw [d _ (by decide), e _ (by omega)]; exact xs_lf h
  · rw [d _ (by decide), e _ (by omega)]; exact xs_sl h
  · rw [d _ (by decide), e _ (by omega)]; exact xs_st h
  · rw [e 22 (by omega)] at q
    rw [d _ (by decide), e _ (by omega), e 21 (by omega)]; exact xs_sp h q
  · rw [e 15 (by omega), sGo_congr 8 (fun t ht => e _ (by omega))]; exact xs_sum h
set_option maxRecDepth 100000 in
set_option maxHeartbeats 400000 in
theorem c_X3_draw {l : Launch} {G : vGG} {M : Mem} {v : Sg} (hLX : LayX M.2) (hX : XS 1 v M.1) (hI : sInv v) {r : Nat} {h : Nat → Nat} (hr : M.1 0 8 = (r : Int)) (hr5 : r ≤ 5) (hh : ∀ k, k < 5 → M.2 21 k = some (h k)) (hB : ∀ k, k < 5 → stB (h k) ∧ 40 ≤ h k ∧ h k ≤ 80) {a on : Int} (ha : R32 a) (ho : R32 on) : Co l yX3_draw cX3_draw 3 (some .int) (rmo 4 82) G [aR (some 0), aI a, aI on] M (xPost r h v M (0 ≤ a ∧ a ≤ 7) (((pc (sDrw (sDra v a.toNat on)) : Nat) : Int)) (-1000001) (sDra v a.toNat on)) := by
  refine Co.ofV (plainFor_of_name (by decide)) rfl rfl ?_
  intro x hxl hxR hlk hrt Q hQ
  show vO x Q G cX3_draw RX3 0 [some (aR (some 0)), some (aI a), some (aI on)] [] M
  refine v_iload_n 1 dX3_draw_0 rfl rfl ?_
  refine oSv1 (c_X3_isStop (by omega)) k0_X3_isStop ki_X3_isStop ml_X3_47 (vRo_of hxR (by decide) (by decide)) dX3_draw_1 (Nat.le_of_ble_eq_true rfl) ?_
  refine v_if_ne 10 dX3_draw_4 (by decide) (bP_R _) (fun h4 => ?_) (fun h4 => ?_)
  · skip
    have ga := bP_n0.mp h4
    obtain ⟨s, rfl⟩ : ∃ s : Nat, a = ((s : Nat) : Int) := ⟨(a).toNat, by omega⟩
    refine v_aload_n 0 dX3_draw_10 rfl rfl ?_
    refine oVm0 3 (c_X3_remember hLX hX hI hr hr5 hh hB) k0_X3_remember ki_X3_remember ml_X3_60 (rfl : SH 0 = _) (by decide) (vRo_of hxR (by decide) (by decide)) dX3_draw_11 (Nat.le_of_ble_eq_true rfl) (fun N hN => ?_)
    have hR := hN
    have hLN := hLX.keep hR.2.1
    have hbb := (xh_p (P := fun b => stB b ∧ 40 ≤ b ∧ b ≤ 80) (r := r) hB (min r 4) (by omega)).2
    have hXN : XS 1 v N.1 := hX.keep (fun i h1 h2 => hR.2.2.2.2.2 i (by omega) (by omega))
    refine v_aload_n 0 dX3_draw_14 rfl rfl ?_
    refine v_getR lk_X3_10 rfl (rfl : SH 0 = _) (ow_0 hLN) dX3_draw_15 ?_
    refine v_aload_n 0 dX3_draw_18 rfl rfl ?_
    refine v_getR lk_X3_10 rfl (rfl : SH 0 = _) (ow_0 hLN) dX3_draw_19 ?_
    refine o_getI (u := ((sDrw v : Nat) : Int)) lk_X3_80 rfl (st_o stB_1) (xs_drw hXN) dX3_draw_22 ?_
    refine v_iload_n 1 dX3_draw_25 rfl rfl ?_
    refine v_iload_n 2 dX3_draw_26 rfl rfl ?_
    have hdl := sDrw_lt hI
    have hwb := wth_lt8 (s := sDrw v) (k := s) (decide (on ≠ 0)) hdl (by omega)
    refine oSv3 (c_X3_with (Int.natCast_nonneg _) (by omega) (by omega) ho) k0_X3_with ki_X3_with ml_X3_111 (vRo_of hxR (by decide) (by decide)) dX3_draw_27 (Nat.le_of_ble_eq_true rfl) ?_
    refine v_putI lp_X3_80 rfl rfl (st_o stB_1) dX3_draw_30 ?_
    refine v_aload_n 0 dX3_draw_33 rfl rfl ?_
    refine v_getR lk_X3_10 rfl (rfl : SH 0 = _) (ow_0 hLN) dX3_draw_34 ?_
    refine o_getI (u := ((wth (sDrw v) s (decide (on ≠ 0)) : Nat) : Int)) lk_X3_80 rfl (st_o stB_1) (by dsimp only; exact vup_s _ _ _ _) dX3_draw_37 ?_
    refine oSv1 (c_J6_bitCount (Nat.lt_trans hwb (by decide))) k0_J6_bitCount ki_J6_bitCount ml_X3_115 (vRo_of hxR (by decide) (by decide)) dX3_draw_40 (Nat.le_of_ble_eq_true rfl) ?_
    refine o_iret hQ hlk hrt dX3_draw_43 ?_
    exact xPost.y ga (by rw [Int.toNat_natCast, dra_drw hI (by omega)]) hR (fz_up fz_rf (by omega) _ _) (xs_udrw hXN hI (by omega) on) rfl
  · skip
    have ga := bP_0.mp h4
    refine v_ldc (-1000001) kc_X3_51 (by decide) dX3_draw_7 ?_
    refine o_iret hQ hlk hrt dX3_draw_9 ?_
    exact xPost.n ga rfl
set_option maxRecDepth 100000 in
set_option maxHeartbeats 400000 in
theorem c_X3_cipher {l : Launch} {G : vGG} {M : Mem} {v : Sg} (hLX : LayX M.2) (hX : XS 1 v M.1) (hI : sInv v) {r : Nat} {h : Nat → Nat} (hr : M.1 0 8 = (r : Int)) (hr5 : r ≤ 5) (hh : ∀ k, k < 5 → M.2 21 k = some (h k)) (hB : ∀ k, k < 5 → stB (h k) ∧ 40 ≤ h k ∧ h k ≤ 80) {a k0 on : Int} (ha : R32 a) (hk0 : R32 k0) (ho : R32 on) : Co l yX3_cipher cX3_cipher 5 (some .int) (rmo 4 82) G [aR (some 0), aI a, aI k0, aI on] M (xPost r h v M (gCip v a k0 on) (((sCi (sCip v a.toNat k0.toNat on) 8 : Nat) : Int)) (eSK a k0 (-1000004)) (sCip v a.toNat k0.toNat on)) := by
  refine Co.ofV (plainFor_of_name (by decide)) rfl rfl ?_
  intro x hxl hxR hlk hrt Q hQ
  show vO x Q G cX3_cipher RX3 0 [some (aR (some 0)), some (aI a), some (aI k0), some (aI on), none] [] M
  refine v_iload_n 1 dX3_cipher_0 rfl rfl ?_
  refine oSv1 (c_X3_isStop (by omega)) k0_X3_isStop ki_X3_isStop ml_X3_47 (vRo_of hxR (by decide) (by decide)) dX3_cipher_1 (Nat.le_of_ble_eq_true rfl) ?_
  refine v_if_eq 14 dX3_cipher_4 (by decide) (bP_R _) (fun h4 => ?_) (fun h4 => ?_)
  · skip
    have ga := bP_0.mp h4
    refine v_ldc (-1000001) kc_X3_51 (by decide) dX3_cipher_14 ?_
    refine o_iret hQ hlk hrt dX3_cipher_16 ?_
    first | exact xPost.n (fun q => ga q.1.1) (by rw [eSK, if_neg (fun q => ga q.1)]) | exact xPost.n (fun q => gb q.1.2) (by rw [eSK, if_neg (fun q => gb q.2)])
  · skip
    have ga := bP_n0.mp h4
    obtain ⟨s, rfl⟩ : ∃ s : Nat, a = ((s : Nat) : Int) := ⟨(a).toNat, by omega⟩
    refine v_iload_n 2 dX3_cipher_7 rfl rfl ?_
    refine oSv1 (c_X3_isKey (by omega)) k0_X3_isKey ki_X3_isKey ml_X3_100 (vRo_of hxR (by decide) (by decide)) dX3_cipher_8 (Nat.le_of_ble_eq_true rfl) ?_
    refine v_if_ne 17 dX3_cipher_11 (by decide) (bP_R _) (fun h11 => ?_) (fun h11 => ?_)
    · skip
      have gb := bP_n0.mp h11
      obtain ⟨k, rfl⟩ : ∃ k : Nat, k0 = ((k : Nat) : Int) := ⟨(k0).toNat, by omega⟩
      refine v_iload_n 3 dX3_cipher_17 rfl rfl ?_
      have hvb := (iv_st hI (show s < 8 by omega)).2.2.2.2
      have hci := iv_ci hI
      have jn42 : ∀ z : Int, z = bP (on ≠ 0 ∧ (bt (v (256 + s)) k) = false) → vO x Q G cX3_cipher RX3 42 [some (aR (some 0)), some (aI (s : Int)), some (aI (k : Int)), some (aI on), none] [aI z] M := by
        intro z hz
        subst hz
        refine v_ist4 dX3_cipher_42 rfl ?_
        refine v_iload dX3_cipher_44 rfl ?_
        have jn67 : (hg : ¬ (on ≠ 0 ∧ (bt (v (256 + s)) k) = false ∧ sCi v 8 = 6)) → vO x Q G cX3_cipher RX3 67 [some (aR (some 0)), some (aI (s : Int)), some (aI (k : Int)), some (aI on), some (aI (bP (on ≠ 0 ∧ (bt (v (256 + s)) k) = false)))] [] M := by
          intro hg
          have hI2 := cip_inv hI (show s < 8 by omega) (show k < 24 by omega) hg
          refine v_aload_n 0 dX3_cipher_67 rfl rfl ?_
          refine oVm0 3 (c_X3_remember hLX hX hI hr hr5 hh hB) k0_X3_remember ki_X3_remember ml_X3_60 (rfl : SH 0 = _) (by decide) (vRo_of hxR (by decide) (by decide)) dX3_cipher_68 (Nat.le_of_ble_eq_true rfl) (fun N hN => ?_)
          have hR := hN
          have hLN := hLX.keep hR.2.1
          have hbb := (xh_p (P := fun b => stB b ∧ 40 ≤ b ∧ b ≤ 80) (r := r) hB (min r 4) (by omega)).2
          have hXN : XS 1 v N.1 := hX.keep (fun i h1 h2 => hR.2.2.2.2.2 i (by omega) (by omega))
          refine v_aload_n 0 dX3_cipher_71 rfl rfl ?_
          refine v_getR lk_X3_10 rfl (rfl : SH 0 = _) (ow_0 hLN) dX3_cipher_72 ?_
          refine v_getR lk_X3_103 rfl (st_o stB_1) (hLN.1 1 stB_1 4 (by decide)) dX3_cipher_75 ?_
          refine v_iload_n 1 dX3_cipher_78 rfl rfl ?_
          refine v_aload_n 0 dX3_cipher_79 rfl rfl ?_
          refine v_getR lk_X3_10 rfl (rfl : SH 0 = _) (ow_0 hLN) dX3_cipher_80 ?_
          refine v_getR lk_X3_103 rfl (st_o stB_1) (hLN.1 1 stB_1 4 (by decide)) dX3_cipher_83 ?_
          refine v_iload_n 1 dX3_cipher_86 rfl rfl ?_
          refine o_iald (j := s) (u := (v (256 + s))) (st_a4 stB_1) (by omega) (by omega) (xs_cip hXN (by omega)) dX3_cipher_87 ?_
          refine v_iload_n 2 dX3_cipher_88 rfl rfl ?_
          refine v_iload_n 3 dX3_cipher_89 rfl rfl ?_
          refine oSv3 (c_X3_with hvb.1 (by omega) (by omega) ho) k0_X3_with ki_X3_with ml_X3_111 (vRo_of hxR (by decide) (by decide)) dX3_cipher_90 (Nat.le_of_ble_eq_true rfl) ?_
          refine o_iast (j := s) (by omega) (st_a4 stB_1) (by omega) (by omega) dX3_cipher_93 ?_
          refine o_wz (a := 1) (c := 11) (a2 := 26) (c2 := 40) (M0 := N) fz_rf (by omega) (fun K hF ei ej => ?_)
          have hXK : XS 1 (sCip v s k on) K.1 := by
            have q := xs_ucip hXN (j := s) (by omega) ((wth (v (256 + s)).toNat k (decide (on ≠ 0)) : Nat) : Int)
            have e : K.1 = vup N.1 (1 + 1 + 4) s ((wth (v (256 + s)).toNat k (decide (on ≠ 0)) : Nat) : Int) := by
              funext i j
              by_cases h1 : i = 1 + 1 + 4
              · subst h1
                rw [ej j, vup_in]
              · rw [ei i h1, vup_o (.inl h1)]
            rw [e]
            exact q
          have hLK := fz_layX hF hLN
          refine v_aload_n 0 dX3_cipher_94 rfl rfl ?_
          refine v_getR lk_X3_10 rfl (rfl : SH 0 = _) (ow_0 hLK) dX3_cipher_95 ?_
          refine v_getR lk_X3_103 rfl (st_o stB_1) (hLK.1 1 stB_1 4 (by decide)) dX3_cipher_98 ?_
          refine oSv1 (c_X3_countOfAll (i := 1 + 1 + 4) (z := fun s2 => ((sCip v s k on) (256 + s2)).toNat) (st_a4 stB_1) (fun s2 hs2 => by have := (iv_st hI2 hs2).2.2.2.2; exact ⟨(xs_cip hXK hs2).trans (by omega), by omega⟩)) k0_X3_countOfAll ki_X3_countOfAll ml_X3_106 (vRo_of hxR (by decide) (by decide)) dX3_cipher_101 (Nat.le_of_ble_eq_true rfl) ?_
          rw [← sCi_sum (sCip v s k on) 8]
          refine o_iret hQ hlk hrt dX3_cipher_104 ?_
          exact xPost.y ⟨⟨ga, gb⟩, hg⟩ rfl hR hF hXK rfl
        refine v_if_eq 67 dX3_cipher_46 (by decide) (bP_R _) (fun h46 => ?_) (fun h46 => ?_)
        · skip
          first | exact jn67 (fun q => bP_0.mp h46 ⟨q.1, q.2.1⟩) | exact jn67 (fun q => by have := q.2.2; omega)
        · skip
          refine v_aload_n 0 dX3_cipher_49 rfl rfl ?_
          refine v_getR lk_X3_10 rfl (rfl : SH 0 = _) (ow_0 hLX) dX3_cipher_50 ?_
          refine v_getR lk_X3_103 rfl (st_o stB_1) (hLX.1 1 stB_1 4 (by decide)) dX3_cipher_53 ?_
          refine oSv1 (c_X3_countOfAll (i := 1 + 1 + 4) (z := fun s2 => (v (256 + s2)).toNat) (st_a4 stB_1) (fun s2 hs2 => by have := (iv_st hI hs2).2.2.2.2; exact ⟨(xs_cip hX hs2).trans (by omega), by omega⟩)) k0_X3_countOfAll ki_X3_countOfAll ml_X3_106 (vRo_of hxR (by decide) (by decide)) dX3_cipher_56 (Nat.le_of_ble_eq_true rfl) ?_
          rw [← sCi_sum v 8]
          refine v_bipush dX3_cipher_59 (by decide) ?_
          refine v_icmp_lt 67 dX3_cipher_61 (by decide) (by omega) (by decide) (fun h61 => ?_) (fun h61 => ?_)
          · skip
            first | exact jn67 (fun q => bP_0.mp h46 ⟨q.1, q.2.1⟩) | exact jn67 (fun q => by have := q.2.2; omega)
          · skip
            refine v_ldc (-1000004) kc_X3_110 (by decide) dX3_cipher_64 ?_
            refine o_iret hQ hlk hrt dX3_cipher_66 ?_
            exact xPost.n (fun q => q.2 ⟨(bP_n0.mp h46).1, (bP_n0.mp h46).2, by omega⟩) (by rw [eSK, if_pos ⟨ga, gb⟩])
      refine v_if_eq 41 dX3_cipher_18 (by decide) ho (fun h18 => ?_) (fun h18 => ?_)
      · skip
        refine v_iconst dX3_cipher_41 ?_
        exact jn42 _ (by first | (rw [bP_f (fun q => q.1 h18)]; done) | (rw [bP_f (fun q => Bool.eq_false_iff.mp q.2 (bP_n0.mp h34))]; done) | (rw [bP_t ⟨h18, Bool.eq_false_iff.mpr (bP_0.mp h34)⟩]; done))
      · skip
        refine v_aload_n 0 dX3_cipher_21 rfl rfl ?_
        refine v_getR lk_X3_10 rfl (rfl : SH 0 = _) (ow_0 hLX) dX3_cipher_22 ?_
        refine v_getR lk_X3_103 rfl (st_o stB_1) (hLX.1 1 stB_1 4 (by decide)) dX3_cipher_25 ?_
        refine v_iload_n 1 dX3_cipher_28 rfl rfl ?_
        refine o_iald (j := s) (u := v (256 + (s))) (st_a4 stB_1) (by omega) (by omega) (xs_cip hX (by omega)) dX3_cipher_29 ?_
        refine v_iload_n 2 dX3_cipher_30 rfl rfl ?_
        refine oSv2 (c_X3_isIn hvb.1 (by omega) (by omega)) k0_X3_isIn ki_X3_isIn ml_X3_84 (vRo_of hxR (by decide) (by decide)) dX3_cipher_31 (Nat.le_of_ble_eq_true rfl) ?_
        refine v_if_ne 41 dX3_cipher_34 (by decide) (bP_R _) (fun h34 => ?_) (fun h34 => ?_)
        · skip
          refine v_iconst dX3_cipher_41 ?_
          exact jn42 _ (by first | (rw [bP_f (fun q => q.1 h18)]; done) | (rw [bP_f (fun q => Bool.eq_false_iff.mp q.2 (bP_n0.mp h34))]; done) | (rw [bP_t ⟨h18, Bool.eq_false_iff.mpr (bP_0.mp h34)⟩]; done))
        · skip
          refine v_iconst dX3_cipher_37 ?_
          refine v_goto 42 dX3_cipher_38 (by decide) ?_
          exact jn42 _ (by first | (rw [bP_f (fun q => q.1 h18)]; done) | (rw [bP_f (fun q => Bool.eq_false_iff.mp q.2 (bP_n0.mp h34))]; done) | (rw [bP_t ⟨h18, Bool.eq_false_iff.mpr (bP_0.mp h34)⟩]; done))
    · skip
      have gb := bP_0.mp h11
      refine v_ldc (-1000001) kc_X3_51 (by decide) dX3_cipher_14 ?_
      refine o_iret hQ hlk hrt dX3_cipher_16 ?_
      first | exact xPost.n (fun q => ga q.1.1) (by rw [eSK, if_neg (fun q => ga q.1)]) | exact xPost.n (fun q => gb q.1.2) (by rw [eSK, if_neg (fun q => gb q.2)])
