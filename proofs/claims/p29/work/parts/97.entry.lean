/-! ===== from the law's entry to its loop ===== -/
theorem shU_none {i : Nat} (h : 1003 ≤ i) : shU 0 i = none := by
  unfold shU
  rw [if_pos (by omega)]
  unfold SH
  rw [if_neg (by omega), if_neg (by omega), if_neg (by omega), if_neg (by omega), if_neg (by omega), if_neg (by omega), if_neg (by omega), if_neg (by omega), if_neg (by omega), if_neg (by omega), if_neg (by omega), if_neg (by omega)]
theorem shU_0 {i : Nat} {y : Shp} (h : shU 0 i = some y) : (i = 1000 ∨ i = 1001 ∨ i = 1002) ∧ y = .inr (0, 9) := by
  by_cases h1 : 1000 ≤ i
  · by_cases h2 : 1003 ≤ i
    · rw [shU_none h2] at h; cases h
    · have h3 : i = 1000 ∨ i = 1001 ∨ i = 1002 := by omega
      refine ⟨h3, ?_⟩
      rcases h3 with rfl | rfl | rfl
      · cases h; rfl
      · cases h; rfl
      · cases h; rfl
  · unfold shU at h
    rw [if_neg (by omega)] at h
    cases h
set_option maxRecDepth 100000 in
set_option maxHeartbeats 1000000 in
theorem start_law {x : vXX} {Q : State → Prop} {G : vGG} {Ln : Nat} {zs : Nat → Int32} (C : lwC x G Ln zs) (hxR : xR x = room_1) (hE : ∀ (ls : List (Option AV)) (N : Mem), ls.length = 10 → V x Q G cL_law RL SH 114 114 3014 441 ls [aI 1] N) : vU x Q G cL_law RL 0 0 0 0 [some (aR (some 1003)), none, none, none, none, none, none, none, none, none] [] Ms := by
  refine u_new (r := (RX3, TX3, 9)) rfl lc_L_26 li_3 lI_3 (rfl : SH 0 = _) (by decide) (by rw [hxR]; exact Nat.le_of_ble_eq_true rfl) (by rw [hxR]; exact Nat.le_of_ble_eq_true rfl) dL_law_0 ?_
  refine v_dup dL_law_3 rfl ?_
  refine v_callI (As := []) (c_X3_init vz_s (fun k hk => congrFun (vz_1 (by decide)) k)) k0_X3_init ml_L_120 ki_X3_init rfl rfl (show vRm (rmk 2 109 2933 39) (xR x) 2 (0 + 1) (0 + 9) from by rw [hxR]; exact ⟨⟨Nat.le_of_ble_eq_true rfl, Nat.le_of_ble_eq_true rfl⟩, Nat.le_of_ble_eq_true rfl, Nat.le_of_ble_eq_true rfl⟩) (Nat.le_of_ble_eq_true rfl) dL_law_4 (fun r0 sh' n' N hp => ?_)
  obtain ⟨rfl, rfl, rfl, hC⟩ := hp
  show vU x Q G cL_law RL 110 110 2942 7 [some (aR (some 1003)), none, none, none, none, none, none, none, none, none] [aR (some 0)] N
  refine v_ast1 dL_law_7 rfl ?_
  refine v_bipush dL_law_8 (by decide) ?_
  refine u_newI (len := 40) (rfl : SH 110 = _) rfl (by decide) (by decide) (by rw [hxR]; exact Nat.le_of_ble_eq_true rfl) (by rw [hxR]; exact Nat.le_of_ble_eq_true rfl) dL_law_10 ?_
  refine v_ast2 dL_law_12 rfl ?_
  refine v_bipush dL_law_13 (by decide) ?_
  refine u_newI (len := 9) (rfl : SH 111 = _) rfl (by decide) (by decide) (by rw [hxR]; exact Nat.le_of_ble_eq_true rfl) (by rw [hxR]; exact Nat.le_of_ble_eq_true rfl) dL_law_15 ?_
  refine v_ast3 dL_law_17 rfl ?_
  refine v_bipush dL_law_18 (by decide) ?_
  refine u_newI (len := 8) (rfl : SH 112 = _) rfl (by decide) (by decide) (by rw [hxR]; exact Nat.le_of_ble_eq_true rfl) (by rw [hxR]; exact Nat.le_of_ble_eq_true rfl) dL_law_20 ?_
  refine v_ast4 dL_law_22 rfl ?_
  refine v_bipush dL_law_24 (by decide) ?_
  refine u_newI (len := 15) (rfl : SH 113 = _) rfl (by decide) (by decide) (by rw [hxR]; exact Nat.le_of_ble_eq_true rfl) (by rw [hxR]; exact Nat.le_of_ble_eq_true rfl) dL_law_26 ?_
  refine v_ast5 dL_law_28 rfl ?_
  rw [shU_114]
  refine v_aload_n 2 dL_law_30 rfl rfl ?_
  refine v_aload_n 3 dL_law_31 rfl rfl ?_
  refine v_aload dL_law_32 rfl ?_
  refine lSm3 (c_L_begins) k0_L_begins ki_L_begins ml_L_121 (lRm C (by decide) (by decide)) dL_law_34 (Nat.le_of_ble_eq_true rfl) (fun N2 hN2 => ?_)
  obtain ⟨K, hK, rfl⟩ := hN2
  obtain ⟨h, ro, ke, kr, L, hJ, hk0, hW⟩ := start_J hC hK (fun k hk => congrFun (vz_1 (by decide)) k) (fun k hk => congrFun (vz_1 (by decide)) k)
  exact law_run C hE hJ hk0 hW
