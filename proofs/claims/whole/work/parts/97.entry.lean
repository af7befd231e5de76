/-! ===== from the law's entry to its loop ===== -/
theorem shU_none {i : Nat} (h : 1003 ≤ i) : shU 0 i = none := by
  unfold shU
  rw [if_pos (by omega)]
  unfold SH
  rw [if_neg (by omega), if_neg (by omega), if_neg (by omega), if_neg (by omega), if_neg (by omega), if_neg (by omega), if_neg (by omega), if_neg (by omega), if_neg (by omega), if_neg (by omega), if_neg (by omega), if_neg (by omega)]
theorem shU_0 {i : Nat} {y : Shp} (h : shU 0 i = some y) : (i = 1000 ∨ i = 1001 ∨ i = 1002) ∧ y = .inr (0, 9) := by
  by_cases h1 : 1000 ≤ i
  · by_cases h2 : 1003 ≤ i
    · rw [shU_none h2] at h; cases h
    · have h3 : i = 1000 ∨ i = 1001 ∨ i = 1002 := by omega
      refine ⟨h3, ?_⟩
      rcases h3 with rfl | rfl | rfl
      · cases h; rfl
      · cases h; rfl
      · cases h; rfl
  · unfold shU at h
    rw [if_neg (by omega)] at h
    cases h
set_option maxRecDepth 100000 in
set_option maxHeartbeats 1000000 in
theorem start_law {x : vXX} {Q : State → Prop} {G : vGG} {Ln : Nat} {zs : Nat → Int32} (C : lwC x G 127 6039 Ln zs) (hxR : xR x = room_1) (hE : ∀ i M, vLw x Q G 127 6039 937 i [] M) : vU x Q G cL_law RL 0 0 0 0 [some (aR (some 1003)), none, none, none] [] Ms := by
  refine u_new (r := (RX3, TX3, 9)) rfl lc_L_7 li_3 lI_3 (rfl : SH 0 = _) (by decide) (by rw [hxR]; exact Nat.le_of_ble_eq_true rfl) (by rw [hxR]; exact Nat.le_of_ble_eq_true rfl) dL_law_0 ?_
  refine v_dup dL_law_3 rfl ?_
  refine v_callI (As := []) (c_X3_init vz_s (fun k hk => congrFun (vz_1 (by decide)) k)) k0_X3_init ml_L_9 ki_X3_init rfl rfl (show vRm (rmk 2 109 2933 39) (xR x) 2 (0 + 1) (0 + 9) from by rw [hxR]; exact ⟨⟨Nat.le_of_ble_eq_true rfl, Nat.le_of_ble_eq_true rfl⟩, Nat.le_of_ble_eq_true rfl, Nat.le_of_ble_eq_true rfl⟩) (Nat.le_of_ble_eq_true rfl) dL_law_4 (fun r0 sh' n' N hp => ?_)
  obtain ⟨rfl, rfl, rfl, hC⟩ := hp
  show vU x Q G cL_law RL 110 110 2942 7 [some (aR (some 1003)), none, none, none] [aR (some 0)] N
  refine v_ast1 dL_law_7 rfl ?_
  refine u_new (r := (RX4, TX4, 22)) rfl lc_L_10 li_4 lI_4 (rfl : SH 110 = _) (by decide) (by rw [hxR]; exact Nat.le_of_ble_eq_true rfl) (by rw [hxR]; exact Nat.le_of_ble_eq_true rfl) dL_law_8 ?_
  refine v_dup dL_law_11 rfl ?_
  refine v_callI (As := []) (c_X4_init (vz_s.trans rfl)) k0_X4_init ml_L_12 ki_X4_init rfl rfl (show vRm (rmk 1 16 3075 12) (xR x) 2 (110 + 1) (2942 + 22) from by rw [hxR]; exact ⟨⟨Nat.le_of_ble_eq_true rfl, Nat.le_of_ble_eq_true rfl⟩, Nat.le_of_ble_eq_true rfl, Nat.le_of_ble_eq_true rfl⟩) (Nat.le_of_ble_eq_true rfl) dL_law_12 (fun r0 sh' n' N2 hp => ?_)
  obtain ⟨rfl, rfl, rfl, hI⟩ := hp
  show vU x Q G cL_law RL 127 127 6039 15 [some (aR (some 1003)), some (aR (some 0)), none, none] [aR (some 110)] N2
  refine v_ast2 dL_law_15 rfl ?_
  refine v_iconst dL_law_16 ?_
  refine v_ist3 dL_law_17 rfl ?_
  rw [shU_127]
  have hJ : JR N2 := start_JR hC hI (fun k hk => congrFun (vz_1 (by decide)) k) (fun k hk => congrFun (vz_1 (by decide)) k)
  exact law_loop C hE Ln 0 N2 (by omega) (Nat.zero_le _) hJ
