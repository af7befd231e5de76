/-! ===== the class: tune ===== -/
def xPostQ (r : Nat) (h : Nat → Nat) (v : Sg) (M : Mem) (good : Prop) (ans err : Int) (w : Sg) (r0 : Option AV) (M' : Mem) : Prop := (good ∧ r0 = some (aI ans) ∧ ∃ M0 : Mem, fz 26 40 1 0 M M0 ∧ xOp r h v w M0 M') ∨ (¬ good ∧ r0 = some (aI err) ∧ fz 26 40 1 0 M M')
set_option maxRecDepth 100000 in
set_option maxHeartbeats 400000 in
theorem c_X3_tune {l : Launch} {G : vGG} {M : Mem} {v : Sg} (hLX : LayX M.2) (hX : XS 1 v M.1) (hI : sInv v) {r : Nat} {h : Nat → Nat} (hr : M.1 0 8 = (r : Int)) (hr5 : r ≤ 5) (hh : ∀ k, k < 5 → M.2 21 k = some (h k)) (hB : ∀ k, k < 5 → stB (h k) ∧ 40 ≤ h k ∧ h k ≤ 80) {a k0 : Int} (ha : R32 a) (hk0 : R32 k0) : Co l yX3_tune cX3_tune 5 (some .int) (rmo 6 137) G [aR (some 0), aI a, aI k0] M (xPostQ r h v M (gTun v a k0) (v (64 + 24 * a.toNat + k0.toNat)) (eSK a k0 (-1000003)) (sTun v a.toNat k0.toNat)) := by
  refine Co.ofV (plainFor_of_name (by decide)) rfl rfl ?_
  intro x hxl hxR hlk hrt Q hQ
  show vO x Q G cX3_tune RX3 0 [some (aR (some 0)), some (aI a), some (aI k0), none, none] [] M
  refine v_iload_n 1 dX3_tune_0 rfl rfl ?_
  refine oSv1 (c_X3_isStop (by omega)) k0_X3_isStop ki_X3_isStop ml_X3_47 (vRo_of hxR (by decide) (by decide)) dX3_tune_1 (Nat.le_of_ble_eq_true rfl) ?_
  refine v_if_eq 14 dX3_tune_4 (by decide) (bP_R _) (fun h4 => ?_) (fun h4 => ?_)
  · skip
    have ga := bP_0.mp h4
    refine v_ldc (-1000001) kc_X3_51 (by decide) dX3_tune_14 ?_
    refine o_iret hQ hlk hrt dX3_tune_16 ?_
    first | exact .inr ⟨fun q => ga q.1.1, by rw [eSK, if_neg (fun q => ga q.1)], fz_rf⟩ | exact .inr ⟨fun q => gb q.1.2, by rw [eSK, if_neg (fun q => gb q.2)], fz_rf⟩
  · skip
    have ga := bP_n0.mp h4
    obtain ⟨s, rfl⟩ : ∃ s : Nat, a = ((s : Nat) : Int) := ⟨(a).toNat, by omega⟩
    refine v_iload_n 2 dX3_tune_7 rfl rfl ?_
    refine oSv1 (c_X3_isKey (by omega)) k0_X3_isKey ki_X3_isKey ml_X3_100 (vRo_of hxR (by decide) (by decide)) dX3_tune_8 (Nat.le_of_ble_eq_true rfl) ?_
    refine v_if_ne 17 dX3_tune_11 (by decide) (bP_R _) (fun h11 => ?_) (fun h11 => ?_)
    · skip
      have gb := bP_n0.mp h11
      obtain ⟨k, rfl⟩ : ∃ k : Nat, k0 = ((k : Nat) : Int) := ⟨(k0).toNat, by omega⟩
      refine v_aload_n 0 dX3_tune_17 rfl rfl ?_
      refine oVm0 3 (c_X3_readWind hLX hX hI) k0_X3_readWind ki_X3_readWind ml_X3_172 (rfl : SH 0 = _) (by decide) (vRo_of hxR (by decide) (by decide)) dX3_tune_18 (Nat.le_of_ble_eq_true rfl) (fun N hN => ?_)
      obtain ⟨hF, hW⟩ := hN
      have hLN := fz_layX hF hLX
      have hXN := hX.keep (fun i h1 h2 => hF.2 i (by omega) (by omega))
      have hFq : fz 26 40 1 0 M N := ⟨hF.1, fun i h1 h2 => hF.2 i (by omega) (by omega)⟩
      have hbb := sBend_b hI (sDrw v) true (show s < 8 by omega)
      have hsb := sSk_bit v (sDrw v) true s 24 (Nat.le_refl _) k (by omega)
      have hsl := sSk_lt v (sDrw v) true s 24 (Nat.le_refl _)
      refine v_aload_n 0 dX3_tune_21 rfl rfl ?_
      refine v_iload_n 1 dX3_tune_22 rfl rfl ?_
      refine oVv1 3 (c_X3_detuning hLN hXN hI hW (by omega)) k0_X3_detuning ki_X3_detuning ml_X3_240 (rfl : SH 0 = _) (by decide) (vRo_of hxR (by decide) (by decide)) dX3_tune_23 (Nat.le_of_ble_eq_true rfl) ?_
      refine v_ineg dX3_tune_26 ?_
      refine v_ist3 dX3_tune_27 rfl ?_
      refine v_aload_n 0 dX3_tune_28 rfl rfl ?_
      refine v_getR lk_X3_40 rfl (rfl : SH 0 = _) (ow_6 hLN) dX3_tune_29 ?_
      refine v_getR lk_X3_196 rfl (wi_o wiB_26) (hLN.2.1 26 wiB_26 5 (by decide)) dX3_tune_32 ?_
      refine v_iload_n 1 dX3_tune_35 rfl rfl ?_
      refine o_iald (j := s) (u := ((sSk v (sDrw v) true (s) 24 : Nat) : Int)) (wi_a5 wiB_26) (by omega) (by omega) (hW.2.2.2 _ (by omega)) dX3_tune_36 ?_
      refine v_iload_n 2 dX3_tune_37 rfl rfl ?_
      refine oSv2 (c_X3_isIn (Int.natCast_nonneg _) (by omega) (by omega)) k0_X3_isIn ki_X3_isIn ml_X3_84 (vRo_of hxR (by decide) (by decide)) dX3_tune_38 (Nat.le_of_ble_eq_true rfl) ?_
      refine v_if_eq 57 dX3_tune_41 (by decide) (bP_R _) (fun h41 => ?_) (fun h41 => ?_)
      · skip
        have g : ¬ sRs v (sDrw v) true s k = 0 := fun q => bP_0.mp h41 (by simpa [bt] using hsb.mpr ⟨by omega, q⟩)
        refine v_ldc (-1000003) kc_X3_149 (by decide) dX3_tune_57 ?_
        refine o_iret hQ hlk hrt dX3_tune_59 ?_
        first | exact .inr ⟨fun q => gc q.2.2, by rw [eSK, if_pos ⟨ga, gb⟩], hFq⟩ | exact .inr ⟨fun q => g q.2.1, by rw [eSK, if_pos ⟨ga, gb⟩], hFq⟩
      · skip
        have g : sRs v (sDrw v) true s k = 0 := (hsb.mp (by simpa [bt] using bP_n0.mp h41)).2
        refine v_iload_n 3 dX3_tune_44 rfl rfl ?_
        refine v_sipush dX3_tune_45 (by decide) ?_
        refine v_sipush dX3_tune_48 (by decide) ?_
        refine oSv3 (c_X3_isWithin (by omega) (by decide) (by decide)) k0_X3_isWithin ki_X3_isWithin ml_X3_55 (vRo_of hxR (by decide) (by decide)) dX3_tune_51 (Nat.le_of_ble_eq_true rfl) ?_
        refine v_if_ne 60 dX3_tune_54 (by decide) (bP_R _) (fun h54 => ?_) (fun h54 => ?_)
        · skip
          have gc := bP_n0.mp h54
          refine v_aload_n 0 dX3_tune_60 rfl rfl ?_
          refine oVm0 3 (c_X3_remember hLN hXN hI (by rw [hF.2 0 (by omega) (by omega)]; exact hr) hr5 (fun q hq => by rw [hF.1]; exact hh q hq) hB) k0_X3_remember ki_X3_remember ml_X3_60 (rfl : SH 0 = _) (by decide) (vRo_of hxR (by decide) (by decide)) dX3_tune_61 (Nat.le_of_ble_eq_true rfl) (fun N hN => ?_)
          have hR := hN
          have hLR := hLN.keep hR.2.1
          have hbb2 := (xh_p (P := fun b => stB b ∧ 40 ≤ b ∧ b ≤ 80) (r := r) hB (min r 4) (by omega)).2
          have hXR : XS 1 v N.1 := hXN.keep (fun i h1 h2 => hR.2.2.2.2.2 i (by omega) (by omega))
          refine v_aload_n 0 dX3_tune_64 rfl rfl ?_
          refine v_getR lk_X3_10 rfl (rfl : SH 0 = _) (ow_0 hLR) dX3_tune_65 ?_
          refine v_getR lk_X3_73 rfl (st_o stB_1) (hLR.1 1 stB_1 5 (by decide)) dX3_tune_68 ?_
          refine v_iload_n 1 dX3_tune_71 rfl rfl ?_
          refine v_iload_n 2 dX3_tune_72 rfl rfl ?_
          refine oSv2 (c_X3_pipeIndex) k0_X3_pipeIndex ki_X3_pipeIndex ml_X3_76 (vRo_of hxR (by decide) (by decide)) dX3_tune_73 (Nat.le_of_ble_eq_true rfl) ?_
          refine o_iald (j := 24 * s + k) (u := (v (64 + 24 * s + k))) (st_a5 stB_1) (by omega) (by omega) ((xs_off hXR (p := 24 * s + k) (by omega)).trans (by rw [Nat.add_assoc])) dX3_tune_76 ?_
          refine v_ist4 dX3_tune_77 rfl ?_
          refine v_aload_n 0 dX3_tune_79 rfl rfl ?_
          refine v_getR lk_X3_10 rfl (rfl : SH 0 = _) (ow_0 hLR) dX3_tune_80 ?_
          refine v_getR lk_X3_73 rfl (st_o stB_1) (hLR.1 1 stB_1 5 (by decide)) dX3_tune_83 ?_
          refine v_iload_n 1 dX3_tune_86 rfl rfl ?_
          refine v_iload_n 2 dX3_tune_87 rfl rfl ?_
          refine oSv2 (c_X3_pipeIndex) k0_X3_pipeIndex ki_X3_pipeIndex ml_X3_76 (vRo_of hxR (by decide) (by decide)) dX3_tune_88 (Nat.le_of_ble_eq_true rfl) ?_
          refine v_iload_n 3 dX3_tune_91 rfl rfl ?_
          refine o_iast (j := 24 * s + k) (by omega) (st_a5 stB_1) (by omega) (by omega) dX3_tune_92 ?_
          refine v_iload dX3_tune_93 rfl ?_
          refine o_iret hQ hlk hrt dX3_tune_95 ?_
          refine .inl ⟨⟨⟨ga, gb⟩, g, gc⟩, rfl, _, hFq, _, hR, fz_up fz_rf (by omega) _ _, ?_⟩
          have q := xs_uoff hXR (j := 24 * s + k) (by omega) (-sBend v (sDrw v) true s)
          rw [← Nat.add_assoc] at q
          exact q
        · skip
          have gc := bP_0.mp h54
          refine v_ldc (-1000003) kc_X3_149 (by decide) dX3_tune_57 ?_
          refine o_iret hQ hlk hrt dX3_tune_59 ?_
          first | exact .inr ⟨fun q => gc q.2.2, by rw [eSK, if_pos ⟨ga, gb⟩], hFq⟩ | exact .inr ⟨fun q => g q.2.1, by rw [eSK, if_pos ⟨ga, gb⟩], hFq⟩
    · skip
      have gb := bP_0.mp h11
      refine v_ldc (-1000001) kc_X3_51 (by decide) dX3_tune_14 ?_
      refine o_iret hQ hlk hrt dX3_tune_16 ?_
      first | exact .inr ⟨fun q => ga q.1.1, by rw [eSK, if_neg (fun q => ga q.1)], fz_rf⟩ | exact .inr ⟨fun q => gb q.1.2, by rw [eSK, if_neg (fun q => gb q.2)], fz_rf⟩
