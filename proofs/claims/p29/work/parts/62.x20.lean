/-! ===== the class: save ===== -/
def slB (s : Nat) : Nat := 90 + 10 * s
theorem slB_st {s : Nat} (hs : s < 2) : stB (slB s) := by unfold stB slB; omega
theorem sl_k {r : Nat → Nat → Option Nat} (h : LayX r) {s : Nat} (hs : s < 2) : r 22 s = some (slB s) := by
  rcases (show s = 0 ∨ s = 1 by omega) with rfl | rfl
  · exact sl_0 h
  · exact sl_1 h
def xSave (s : Nat) (v : Sg) (M M' : Mem) : Prop := M'.2 = M.2 ∧ XS (slB s) v M'.1 ∧ M'.1 23 s = 1 ∧ (∀ t, t ≠ s → M'.1 23 t = M.1 23 t) ∧ ∀ i, i ≠ 23 → (i < slB s ∨ slB s + 10 ≤ i) → M'.1 i = M.1 i
set_option maxRecDepth 100000 in
set_option maxHeartbeats 400000 in
theorem c_X3_save {l : Launch} {G : vGG} {M : Mem} {v : Sg} (hLX : LayX M.2) (hX : XS 1 v M.1) (hI : sInv v) {a : Int} (ha : R32 a) : Co l yX3_save cX3_save 2 (some .int) (rmo 3 60) G [aR (some 0), aI a] M (fun r0 M' => (0 ≤ a ∧ a ≤ 1 → r0 = some (aI (v 13)) ∧ xSave a.toNat v M M') ∧ (¬ (0 ≤ a ∧ a ≤ 1) → r0 = some (aI (-1000001)) ∧ M' = M)) := by
  refine Co.ofV (plainFor_of_name (by decide)) rfl rfl ?_
  intro x hxl hxR hlk hrt Q hQ
  show vO x Q G cX3_save RX3 0 [some (aR (some 0)), some (aI a)] [] M
  refine v_iload_n 1 dX3_save_0 rfl rfl ?_
  refine oSv1 (c_X3_isSlot (by omega)) k0_X3_isSlot ki_X3_isSlot ml_X3_282 (vRo_of hxR (by decide) (by decide)) dX3_save_1 (Nat.le_of_ble_eq_true rfl) ?_
  refine v_if_ne 10 dX3_save_4 (by decide) (bP_R _) (fun h4 => ?_) (fun h4 => ?_)
  · skip
    have ga := bP_n0.mp h4
    obtain ⟨s, rfl⟩ : ∃ s : Nat, a = ((s : Nat) : Int) := ⟨(a).toNat, by omega⟩
    refine v_aload_n 0 dX3_save_10 rfl rfl ?_
    refine v_getR lk_X3_10 rfl (rfl : SH 0 = _) (ow_0 hLX) dX3_save_11 ?_
    refine v_aload_n 0 dX3_save_14 rfl rfl ?_
    refine v_getR lk_X3_23 rfl (rfl : SH 0 = _) (ow_3 hLX) dX3_save_15 ?_
    refine v_iload_n 1 dX3_save_18 rfl rfl ?_
    refine v_aald (rfl : SH 22 = _) (by omega) (sl_k hLX (by omega)) dX3_save_19 ?_
    refine oSm2 (c_X3_copyState stB_1 (slB_st (s := s) (by omega)) (by unfold slB; omega) hLX hX hI) k0_X3_copyState ki_X3_copyState ml_X3_275 (vRo_of hxR (by decide) (by decide)) dX3_save_20 (Nat.le_of_ble_eq_true rfl) (fun N hN => ?_)
    obtain ⟨hF, hX2⟩ := hN
    have hLN := fz_layX hF hLX
    have hsl : slB s = 90 + 10 * s := rfl
    have hsl2 : slB (s : Int).toNat = 90 + 10 * s := rfl
    refine v_aload_n 0 dX3_save_23 rfl rfl ?_
    refine v_getR lk_X3_26 rfl (rfl : SH 0 = _) (ow_4 hLN) dX3_save_24 ?_
    refine v_iload_n 1 dX3_save_27 rfl rfl ?_
    refine v_iconst dX3_save_28 ?_
    refine o_zast (j := s) (by decide) (by omega) (rfl : SH 23 = _) (by omega) (by omega) dX3_save_29 ?_
    refine v_aload_n 0 dX3_save_30 rfl rfl ?_
    refine v_getR lk_X3_10 rfl (rfl : SH 0 = _) (ow_0 hLN) dX3_save_31 ?_
    refine o_getI (u := (v 13)) lk_X3_181 rfl (st_o stB_1) (by dsimp only; rw [vup_o (by omega), hF.2 1 (by omega) (by omega)]; exact xs_tim hX) dX3_save_34 ?_
    refine o_iret hQ hlk hrt dX3_save_37 ?_
    exact ⟨fun _ => ⟨rfl, hF.1, hX2.keep (fun i h1 h2 => by funext b; exact vup_o (by omega)), vup_s _ _ _ _, fun t ht => by dsimp only; rw [vup_o (by omega), hF.2 23 (by omega) (by omega)], fun i hi h1 => by funext b; dsimp only; rw [vup_o (by omega), hF.2 i h1 (by omega)]⟩, fun q => absurd ga q⟩
  · skip
    have ga := bP_0.mp h4
    refine v_ldc (-1000001) kc_X3_51 (by decide) dX3_save_7 ?_
    refine o_iret hQ hlk hrt dX3_save_9 ?_
    exact ⟨fun q => absurd q ga, fun _ => ⟨rfl, rfl⟩⟩
