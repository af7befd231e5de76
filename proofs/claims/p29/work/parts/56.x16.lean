/-! ===== the class: couple ===== -/
theorem xs_ucou {b : Nat} {v : Sg} {f : Nat → Nat → Int} (h : XS b v f) {a c : Int} (ha : a = 0 ∨ a = 1) (hc : c = 0 ∨ c = 1) : XS b (sCou v a c) (vup (vup f b 10 a) b 11 c) := by
  have e : ∀ i, i ≠ 10 → sCou v a c i = v i := fun i hi => sup_ne _ _ hi
  have e10 : sCou v a c 10 = a + 2 * c := by
    rw [sCou, sup_eq]
    rcases ha with rfl | rfl <;> rcases hc with rfl | rfl <;> rfl
  have k : ∀ n t, vup (vup f b 10 a) b 11 c (b + 1 + n) t = f (b + 1 + n) t := fun n t => (vup_o (by omega)).trans (vup_o (by omega))
  have d : ∀ t, t ≠ 10 → t ≠ 11 → vup (vup f b 10 a) b 11 c b t = f b t := fun t h1 h2 => (vup_o (by omega)).trans (vup_o (by omega))
  refine ⟨fun t ht => ⟨?_, ?_, ?_, ?_, ?_⟩, ⟨fun t ht => ?_, fun t ht => ?_, fun t ht => ?_, fun t ht => ?_⟩, ⟨?_, ?_, ?_⟩, ⟨?_, ?_, ?_, ?_, ?_, ?_, ?_, fun q => ?_⟩, ?_⟩
  · rw [k, e _ (by omega)]; exact xs_man h ht
  · rw [k, e _ (by omega)]; exact xs_dem h ht
  · rw [k, e _ (by omega)]; exact xs_lea h ht
  · rw [k, e _ (by omega)]; exact xs_got h ht
  · rw [k, e _ (by omega)]; exact xs_cip h ht
  · rw [k, e _ (by omega)]; exact xs_off h ht
  · rw [k, e _ (by omega)]; exact xs_set h ht
  · rw [k, e _ (by omega)]; exact xs_pre h ht
  · rw [k, e _ (by omega)]; exact xs_sb h ht
  · rw [d _ (by decide) (by decide), sDrw_congr (fun t ht => e _ (by omega))]; exact xs_drw h
  · rw [vup_o (by omega), vup_s, e10]; omega
  · rw [vup_s, e10]; omega
  · rw [d _ (by decide) (by decide), e _ (by omega)]; exact xs_vol h
  · rw [d _ (by decide) (by decide), e _ (by omega)]; exact xs_tim h
  · rw [d _ (by decide) (by decide), e _ (by omega)]; exact xs_mad h
  · rw [d _ (by decide) (by decide), e _ (by omega)]; exact xs_spi h
  · rw [d _ (by decide) (by decide), e _ (by omega)]; exact xs_lf h
  · rw [d _ (by decide) (by decide), e _ (by omega)]; exact xs_sl h
  · rw [d _ (by decide) (by decide), e _ (by omega)]; exact xs_st h
  · rw [e 22 (by omega)] at q
    rw [d _ (by decide) (by decide), e _ (by omega), e 21 (by omega)]; exact xs_sp h q
  · rw [e 15 (by omega), sGo_congr 8 (fun t ht => e _ (by omega))]; exact xs_sum h
set_option maxRecDepth 100000 in
set_option maxHeartbeats 400000 in
theorem c_X3_couple {l : Launch} {G : vGG} {M : Mem} {v : Sg} (hLX : LayX M.2) (hX : XS 1 v M.1) (hI : sInv v) {r : Nat} {h : Nat → Nat} (hr : M.1 0 8 = (r : Int)) (hr5 : r ≤ 5) (hh : ∀ k, k < 5 → M.2 21 k = some (h k)) (hB : ∀ k, k < 5 → stB (h k) ∧ 40 ≤ h k ∧ h k ≤ 80) {a c : Int} (ha : a = 0 ∨ a = 1) (hc : c = 0 ∨ c = 1) : Co l yX3_couple cX3_couple 4 (some .int) (rmo 4 82) G [aR (some 0), aI a, aI c] M (xPost r h v M (True) (v 10) (0) (sCou v a c)) := by
  refine Co.ofV (plainFor_of_name (by decide)) rfl rfl ?_
  intro x hxl hxR hlk hrt Q hQ
  have hk := iv_key hI
  show vO x Q G cX3_couple RX3 0 [some (aR (some 0)), some (aI a), some (aI c), none] [] M
  refine v_aload_n 0 dX3_couple_0 rfl rfl ?_
  refine oVm0 3 (c_X3_remember hLX hX hI hr hr5 hh hB) k0_X3_remember ki_X3_remember ml_X3_60 (rfl : SH 0 = _) (by decide) (vRo_of hxR (by decide) (by decide)) dX3_couple_1 (Nat.le_of_ble_eq_true rfl) (fun N hN => ?_)
  have hR := hN
  have hLN := hLX.keep hR.2.1
  have hbb := (xh_p (P := fun b => stB b ∧ 40 ≤ b ∧ b ≤ 80) (r := r) hB (min r 4) (by omega)).2
  have hXN : XS 1 v N.1 := hX.keep (fun i h1 h2 => hR.2.2.2.2.2 i (by omega) (by omega))
  refine v_aload_n 0 dX3_couple_4 rfl rfl ?_
  refine v_getR lk_X3_10 rfl (rfl : SH 0 = _) (ow_0 hLN) dX3_couple_5 ?_
  refine o_getI (u := (v 10 % 2)) lk_X3_124 rfl (st_o stB_1) (xs_mc hXN) dX3_couple_8 ?_
  have jn19 : ∀ z : Int, z = v 10 % 2 → vO x Q G cX3_couple RX3 19 [some (aR (some 0)), some (aI a), some (aI c), none] [aI z] N := by
    intro z hz
    subst hz
    refine v_aload_n 0 dX3_couple_19 rfl rfl ?_
    refine v_getR lk_X3_10 rfl (rfl : SH 0 = _) (ow_0 hLN) dX3_couple_20 ?_
    refine o_getI (u := (v 10 / 2)) lk_X3_128 rfl (st_o stB_1) (xs_oc hXN) dX3_couple_23 ?_
    have jn34 : ∀ z : Int, z = 2 * (v 10 / 2) → vO x Q G cX3_couple RX3 34 [some (aR (some 0)), some (aI a), some (aI c), none] [aI z, aI (v 10 % 2)] N := by
      intro z hz
      subst hz
      refine v_iadd dX3_couple_34 ?_
      refine o_eqI (u := v 10) (by omega) ?_
      refine v_ist3 dX3_couple_35 rfl ?_
      refine v_aload_n 0 dX3_couple_36 rfl rfl ?_
      refine v_getR lk_X3_10 rfl (rfl : SH 0 = _) (ow_0 hLN) dX3_couple_37 ?_
      refine v_iload_n 1 dX3_couple_40 rfl rfl ?_
      refine v_putZ lp_X3_124 rfl rfl (by omega) (st_o stB_1) dX3_couple_41 ?_
      refine v_aload_n 0 dX3_couple_44 rfl rfl ?_
      refine v_getR lk_X3_10 rfl (rfl : SH 0 = _) (ow_0 hLN) dX3_couple_45 ?_
      refine v_iload_n 2 dX3_couple_48 rfl rfl ?_
      refine v_putZ lp_X3_128 rfl rfl (by omega) (st_o stB_1) dX3_couple_49 ?_
      refine v_iload_n 3 dX3_couple_52 rfl rfl ?_
      refine o_iret hQ hlk hrt dX3_couple_53 ?_
      exact xPost.y trivial rfl hR (fz_up (fz_up fz_rf (by omega) _ _) (by omega) _ _) (xs_ucou hXN ha hc) rfl
    refine v_if_eq 33 dX3_couple_26 (by decide) (by omega) (fun h26 => ?_) (fun h26 => ?_)
    · skip
      refine v_iconst dX3_couple_33 ?_
      exact jn34 _ (by omega)
    · skip
      refine v_iconst dX3_couple_29 ?_
      refine v_goto 34 dX3_couple_30 (by decide) ?_
      exact jn34 _ (by omega)
  refine v_if_eq 18 dX3_couple_11 (by decide) (by omega) (fun h11 => ?_) (fun h11 => ?_)
  · skip
    refine v_iconst dX3_couple_18 ?_
    exact jn19 _ (by omega)
  · skip
    refine v_iconst dX3_couple_14 ?_
    refine v_goto 19 dX3_couple_15 (by decide) ?_
    exact jn19 _ (by omega)
