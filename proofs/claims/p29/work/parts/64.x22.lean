/-! ===== the class: set ===== -/
set_option maxRecDepth 100000 in
set_option maxHeartbeats 400000 in
theorem c_X3_set {l : Launch} {G : vGG} {M : Mem} {v : Sg} (hLX : LayX M.2) (hX : XS 1 v M.1) (hI : sInv v) {r : Nat} {h : Nat → Nat} (hr : M.1 0 8 = (r : Int)) (hr5 : r ≤ 5) (hh : ∀ k, k < 5 → M.2 21 k = some (h k)) (hB : ∀ k, k < 5 → stB (h k) ∧ 40 ≤ h k ∧ h k ≤ 80) (hlo : ∀ k, k < 9 → M.1 1001 k = tLo k) (hhi : ∀ k, k < 9 → M.1 1002 k = tHi k) {a c : Int} (ha : R32 a) (hc : R32 c) : Co l yX3_set cX3_set 4 (some .int) (rmo 4 82) G [aR (some 0), aI a, aI c] M (xPost r h v M (gSet a c) (v (1 + a.toNat)) (eSet a) (sup v (1 + a.toNat) c)) := by
  refine Co.ofV (plainFor_of_name (by decide)) rfl rfl ?_
  intro x hxl hxR hlk hrt Q hQ
  show vO x Q G cX3_set RX3 0 [some (aR (some 0)), some (aI a), some (aI c), none] [] M
  refine v_iload_n 1 dX3_set_0 rfl rfl ?_
  refine v_iconst dX3_set_1 ?_
  refine v_bipush dX3_set_2 (by decide) ?_
  refine oSv3 (c_X3_isWithin (by omega) (by decide) (by decide)) k0_X3_isWithin ki_X3_isWithin ml_X3_55 (vRo_of hxR (by decide) (by decide)) dX3_set_4 (Nat.le_of_ble_eq_true rfl) ?_
  refine v_if_ne 13 dX3_set_7 (by decide) (bP_R _) (fun h7 => ?_) (fun h7 => ?_)
  · skip
    have ga := bP_n0.mp h7
    obtain ⟨s, rfl⟩ : ∃ s : Nat, a = ((s : Nat) : Int) := ⟨(a).toNat, by omega⟩
    refine v_iload_n 2 dX3_set_13 rfl rfl ?_
    refine v_gets (i := 1001) ls_X3_91 (fun U H h => h.2.1) dX3_set_14 ?_
    refine v_iload_n 1 dX3_set_17 rfl rfl ?_
    refine o_iald (j := s) (u := (tLo s)) (rfl : SH 1001 = _) (by omega) (by omega) (hlo s (by omega)) dX3_set_18 ?_
    refine v_gets (i := 1002) ls_X3_94 (fun U H h => h.2.2) dX3_set_19 ?_
    refine v_iload_n 1 dX3_set_22 rfl rfl ?_
    refine o_iald (j := s) (u := (tHi s)) (rfl : SH 1002 = _) (by omega) (by omega) (hhi s (by omega)) dX3_set_23 ?_
    refine oSv3 (c_X3_isWithin (by omega) (tLo_R s) (tHi_R s)) k0_X3_isWithin ki_X3_isWithin ml_X3_55 (vRo_of hxR (by decide) (by decide)) dX3_set_24 (Nat.le_of_ble_eq_true rfl) ?_
    refine v_if_ne 33 dX3_set_27 (by decide) (bP_R _) (fun h27 => ?_) (fun h27 => ?_)
    · skip
      have gb := bP_n0.mp h27
      refine v_aload_n 0 dX3_set_33 rfl rfl ?_
      refine oVm0 3 (c_X3_remember hLX hX hI hr hr5 hh hB) k0_X3_remember ki_X3_remember ml_X3_60 (rfl : SH 0 = _) (by decide) (vRo_of hxR (by decide) (by decide)) dX3_set_34 (Nat.le_of_ble_eq_true rfl) (fun N hN => ?_)
      have hR := hN
      have hLN := hLX.keep hR.2.1
      have hbb := (xh_p (P := fun b => stB b ∧ 40 ≤ b ∧ b ≤ 80) (r := r) hB (min r 4) (by omega)).2
      have hXN : XS 1 v N.1 := hX.keep (fun i h1 h2 => hR.2.2.2.2.2 i (by omega) (by omega))
      refine v_aload_n 0 dX3_set_37 rfl rfl ?_
      refine v_getR lk_X3_10 rfl (rfl : SH 0 = _) (ow_0 hLN) dX3_set_38 ?_
      refine v_getR lk_X3_97 rfl (st_o stB_1) (hLN.1 1 stB_1 6 (by decide)) dX3_set_41 ?_
      refine v_iload_n 1 dX3_set_44 rfl rfl ?_
      refine o_iald (j := s) (u := (v (1 + s))) (st_a6 stB_1) (by omega) (by omega) (xs_set hXN (by omega)) dX3_set_45 ?_
      refine v_ist3 dX3_set_46 rfl ?_
      refine v_aload_n 0 dX3_set_47 rfl rfl ?_
      refine v_getR lk_X3_10 rfl (rfl : SH 0 = _) (ow_0 hLN) dX3_set_48 ?_
      refine v_getR lk_X3_97 rfl (st_o stB_1) (hLN.1 1 stB_1 6 (by decide)) dX3_set_51 ?_
      refine v_iload_n 1 dX3_set_54 rfl rfl ?_
      refine v_iload_n 2 dX3_set_55 rfl rfl ?_
      refine o_iast (j := s) (by omega) (st_a6 stB_1) (by omega) (by omega) dX3_set_56 ?_
      refine v_iload_n 3 dX3_set_57 rfl rfl ?_
      refine o_iret hQ hlk hrt dX3_set_58 ?_
      exact xPost.y ⟨ga, gb⟩ rfl hR (fz_up fz_rf (by omega) _ _) (xs_uset hXN (by omega) c) rfl
    · skip
      have gb := bP_0.mp h27
      refine v_ldc (-1000002) kc_X3_59 (by decide) dX3_set_30 ?_
      refine o_iret hQ hlk hrt dX3_set_32 ?_
      exact xPost.n (fun q => gb q.2) (by rw [eSet, if_pos ga])
  · skip
    have ga := bP_0.mp h7
    refine v_ldc (-1000001) kc_X3_51 (by decide) dX3_set_10 ?_
    refine o_iret hQ hlk hrt dX3_set_12 ?_
    exact xPost.n (fun q => ga q.1) (by rw [eSet, if_neg ga])
