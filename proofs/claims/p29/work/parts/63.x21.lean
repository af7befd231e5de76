/-! ===== the class: restore ===== -/
set_option maxRecDepth 100000 in
set_option maxHeartbeats 400000 in
theorem c_X3_restore {l : Launch} {G : vGG} {M : Mem} {v : Sg} (hLX : LayX M.2) (hX : XS 1 v M.1) (hI : sInv v) {r : Nat} {h : Nat → Nat} (hr : M.1 0 8 = (r : Int)) (hr5 : r ≤ 5) (hh : ∀ k, k < 5 → M.2 21 k = some (h k)) (hB : ∀ k, k < 5 → stB (h k) ∧ 40 ≤ h k ∧ h k ≤ 80) (hk : ∀ t, t < 2 → M.1 23 t = 0 ∨ M.1 23 t = 1) {a : Int} (ha : R32 a) {u : Sg} (hu : (0 ≤ a ∧ a ≤ 1) ∧ ¬ M.1 23 a.toNat = 0 → XS (slB a.toNat) u M.1 ∧ sInv u) : Co l yX3_restore cX3_restore 2 (some .int) (rmo 4 82) G [aR (some 0), aI a] M (fun r0 M' => ((0 ≤ a ∧ a ≤ 1) ∧ ¬ M.1 23 a.toNat = 0 → r0 = some (aI (u 13)) ∧ xOp r h v u M M') ∧ (¬ ((0 ≤ a ∧ a ≤ 1) ∧ ¬ M.1 23 a.toNat = 0) → r0 = some (aI (if 0 ≤ a ∧ a ≤ 1 then -1000003 else -1000001)) ∧ M' = M)) := by
  refine Co.ofV (plainFor_of_name (by decide)) rfl rfl ?_
  intro x hxl hxR hlk hrt Q hQ
  show vO x Q G cX3_restore RX3 0 [some (aR (some 0)), some (aI a)] [] M
  refine v_iload_n 1 dX3_restore_0 rfl rfl ?_
  refine oSv1 (c_X3_isSlot (by omega)) k0_X3_isSlot ki_X3_isSlot ml_X3_282 (vRo_of hxR (by decide) (by decide)) dX3_restore_1 (Nat.le_of_ble_eq_true rfl) ?_
  refine v_if_ne 10 dX3_restore_4 (by decide) (bP_R _) (fun h4 => ?_) (fun h4 => ?_)
  · skip
    have ga := bP_n0.mp h4
    obtain ⟨s, rfl⟩ : ∃ s : Nat, a = ((s : Nat) : Int) := ⟨(a).toNat, by omega⟩
    refine v_aload_n 0 dX3_restore_10 rfl rfl ?_
    refine v_getR lk_X3_26 rfl (rfl : SH 0 = _) (ow_4 hLX) dX3_restore_11 ?_
    refine v_iload_n 1 dX3_restore_14 rfl rfl ?_
    refine o_zald (j := s) (u := _) (rfl : SH 23 = _) (by omega) (by omega) rfl dX3_restore_15 ?_
    have hks := hk s (by omega)
    refine v_if_ne 22 dX3_restore_16 (by decide) (by omega) (fun h16 => ?_) (fun h16 => ?_)
    · skip
      refine v_aload_n 0 dX3_restore_22 rfl rfl ?_
      refine oVm0 3 (c_X3_remember hLX hX hI hr hr5 hh hB) k0_X3_remember ki_X3_remember ml_X3_60 (rfl : SH 0 = _) (by decide) (vRo_of hxR (by decide) (by decide)) dX3_restore_23 (Nat.le_of_ble_eq_true rfl) (fun N hN => ?_)
      have hsl2 : slB (s : Int).toNat = 90 + 10 * s := rfl
      have hsl : slB s = 90 + 10 * s := rfl
      obtain ⟨hXu, hIu⟩ := hu ⟨ga, h16⟩
      have hR := hN
      have hLN := hLX.keep hR.2.1
      have hbb := (xh_p (P := fun b => stB b ∧ 40 ≤ b ∧ b ≤ 80) (r := r) hB (min r 4) (by omega)).2
      have hXN : XS 1 v N.1 := hX.keep (fun i h1 h2 => hR.2.2.2.2.2 i (by omega) (by omega))
      have hXs : XS (slB s) u N.1 := hXu.keep (fun i h1 h2 => hR.2.2.2.2.2 i (by omega) (by omega))
      refine v_aload_n 0 dX3_restore_26 rfl rfl ?_
      refine v_getR lk_X3_23 rfl (rfl : SH 0 = _) (ow_3 hLN) dX3_restore_27 ?_
      refine v_iload_n 1 dX3_restore_30 rfl rfl ?_
      refine v_aald (rfl : SH 22 = _) (by omega) (sl_k hLN (by omega)) dX3_restore_31 ?_
      refine v_aload_n 0 dX3_restore_32 rfl rfl ?_
      refine v_getR lk_X3_10 rfl (rfl : SH 0 = _) (ow_0 hLN) dX3_restore_33 ?_
      refine oSm2 (c_X3_copyState (slB_st (s := s) (by omega)) stB_1 (by omega) hLN hXs hIu) k0_X3_copyState ki_X3_copyState ml_X3_275 (vRo_of hxR (by decide) (by decide)) dX3_restore_36 (Nat.le_of_ble_eq_true rfl) (fun N hN => ?_)
      obtain ⟨hF, hX2⟩ := hN
      have hL2 := fz_layX hF hLN
      refine v_aload_n 0 dX3_restore_39 rfl rfl ?_
      refine v_getR lk_X3_10 rfl (rfl : SH 0 = _) (ow_0 hL2) dX3_restore_40 ?_
      refine o_getI (u := (u 13)) lk_X3_181 rfl (st_o stB_1) (xs_tim hX2) dX3_restore_43 ?_
      refine o_iret hQ hlk hrt dX3_restore_46 ?_
      exact ⟨fun _ => ⟨rfl, _, hR, ⟨hF.1, fun i h1 h2 => hF.2 i (by omega) (by omega)⟩, hX2⟩, fun q => absurd ⟨ga, h16⟩ q⟩
    · skip
      refine v_ldc (-1000003) kc_X3_149 (by decide) dX3_restore_19 ?_
      refine o_iret hQ hlk hrt dX3_restore_21 ?_
      exact ⟨fun q => absurd h16 q.2, fun _ => ⟨by rw [if_pos ga], rfl⟩⟩
  · skip
    have ga := bP_0.mp h4
    refine v_ldc (-1000001) kc_X3_51 (by decide) dX3_restore_7 ?_
    refine o_iret hQ hlk hrt dX3_restore_9 ?_
    exact ⟨fun q => absurd q.1 ga, fun _ => ⟨by rw [if_neg ga], rfl⟩⟩
