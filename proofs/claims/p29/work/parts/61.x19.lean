/-! ===== the class: undo ===== -/
def xUndo (p : Nat) (u : Sg) (M M' : Mem) : Prop := M'.2 = M.2 ∧ M'.1 0 8 = (p : Int) ∧ (∀ k, k ≠ 8 → M'.1 0 k = M.1 0 k) ∧ XS 1 u M'.1 ∧ ∀ i, 11 ≤ i → M'.1 i = M.1 i
set_option maxRecDepth 100000 in
set_option maxHeartbeats 400000 in
theorem c_X3_undo {l : Launch} {G : vGG} {M : Mem} (hLX : LayX M.2) {r : Nat} {h : Nat → Nat} (hr : M.1 0 8 = (r : Int)) (hr5 : r ≤ 5) (hh : ∀ k, k < 5 → M.2 21 k = some (h k)) (hB : ∀ k, k < 5 → stB (h k) ∧ 40 ≤ h k ∧ h k ≤ 80) {u : Sg} (hu : ∀ p, r = p + 1 → XS (h p) u M.1 ∧ sInv u) : Co l yX3_undo cX3_undo 1 (some .int) (rmo 3 60) G [aR (some 0)] M (fun r0 M' => (r = 0 → r0 = some (aI (-1000003)) ∧ M' = M) ∧ ∀ p, r = p + 1 → r0 = some (aI (p : Int)) ∧ xUndo p u M M') := by
  refine Co.ofV (plainFor_of_name (by decide)) rfl rfl ?_
  intro x hxl hxR hlk hrt Q hQ
  show vO x Q G cX3_undo RX3 0 [some (aR (some 0))] [] M
  refine v_aload_n 0 dX3_undo_0 rfl rfl ?_
  refine o_getI (u := (r : Int)) lk_X3_279 rfl (rfl : SH 0 = _) hr dX3_undo_1 ?_
  refine v_iconst dX3_undo_4 ?_
  refine v_iconst dX3_undo_5 ?_
  refine oSv3 (c_X3_isWithin (by omega) (by decide) (by decide)) k0_X3_isWithin ki_X3_isWithin ml_X3_55 (vRo_of hxR (by decide) (by decide)) dX3_undo_6 (Nat.le_of_ble_eq_true rfl) ?_
  refine v_if_ne 15 dX3_undo_9 (by decide) (bP_R _) (fun h9 => ?_) (fun h9 => ?_)
  · skip
    have g := bP_n0.mp h9
    obtain ⟨p, rfl⟩ : ∃ p : Nat, r = p + 1 := ⟨r - 1, by omega⟩
    have hBp := hB p (by omega)
    obtain ⟨hXu, hIu⟩ := hu p rfl
    refine v_aload_n 0 dX3_undo_15 rfl rfl ?_
    refine v_dup dX3_undo_16 rfl ?_
    refine o_getI (u := ((p + 1 : Nat) : Int)) lk_X3_279 rfl (rfl : SH 0 = _) hr dX3_undo_17 ?_
    refine v_iconst dX3_undo_20 ?_
    refine v_isub dX3_undo_21 ?_
    refine v_putI lp_X3_279 rfl rfl (rfl : SH 0 = _) dX3_undo_22 ?_
    refine o_wr (fun K e2 ei ej => ?_)
    have hLK : LayX K.2 := by rw [e2]; exact hLX
    have hXK : XS (h p) u K.1 := hXu.keep (fun i h1 h2 => ei i (by omega))
    have h8 : K.1 0 8 = (p : Int) := by rw [ej 8, if_pos rfl]; omega
    refine v_aload_n 0 dX3_undo_25 rfl rfl ?_
    refine v_getR lk_X3_19 rfl (rfl : SH 0 = _) (ow_2 hLK) dX3_undo_26 ?_
    refine v_aload_n 0 dX3_undo_29 rfl rfl ?_
    refine o_getI (u := (p : Int)) lk_X3_279 rfl (rfl : SH 0 = _) h8 dX3_undo_30 ?_
    refine v_aald (rfl : SH 21 = _) (by omega) (by rw [e2]; exact hh p (by omega)) dX3_undo_33 ?_
    refine v_aload_n 0 dX3_undo_34 rfl rfl ?_
    refine v_getR lk_X3_10 rfl (rfl : SH 0 = _) (ow_0 hLK) dX3_undo_35 ?_
    refine oSm2 (c_X3_copyState hBp.1 stB_1 (by omega) hLK hXK hIu) k0_X3_copyState ki_X3_copyState ml_X3_275 (vRo_of hxR (by decide) (by decide)) dX3_undo_38 (Nat.le_of_ble_eq_true rfl) (fun N hN => ?_)
    obtain ⟨hF, hX2⟩ := hN
    refine v_aload_n 0 dX3_undo_41 rfl rfl ?_
    refine o_getI (u := (p : Int)) lk_X3_279 rfl (rfl : SH 0 = _) (by rw [hF.2 0 (by omega) (by omega)]; exact h8) dX3_undo_42 ?_
    refine o_iret hQ hlk hrt dX3_undo_45 ?_
    exact ⟨fun q => absurd q (by omega), fun p2 q => by obtain rfl : p2 = p := (by omega); exact ⟨rfl, hF.1.trans e2, by rw [hF.2 0 (by omega) (by omega)]; exact h8, fun k hk => by rw [hF.2 0 (by omega) (by omega), ej k, if_neg hk], hX2, fun i hi => by rw [hF.2 i (by omega) (by omega), ei i (by omega)]⟩⟩
  · skip
    have g := bP_0.mp h9
    refine v_ldc (-1000003) kc_X3_149 (by decide) dX3_undo_12 ?_
    refine o_iret hQ hlk hrt dX3_undo_14 ?_
    exact ⟨fun _ => ⟨rfl, rfl⟩, fun p q => absurd q (by omega)⟩
