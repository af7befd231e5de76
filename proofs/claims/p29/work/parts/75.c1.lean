/-! ===== constructors: the text, the wind, a state ===== -/
set_option maxRecDepth 100000 in
set_option maxHeartbeats 1000000 in
theorem c_X1_init {l : Launch} {G : vGG} {M : Mem} {b : Nat} (hb : b < 900) (hs0 : SH b = some (.inl 1)) (hs1 : SH (b + 1) = some (.inr (0, 80))) (hz : M.1 b = W0 b) : Ct l yX1_init cX1_init 1 none (rmk 1 1 80 12) G [aR (some b)] (shU (b + 1)) (b + 1) M (vPn (b + 1 + 1) (nG b 1 F0k W0 M)) := by
  refine Ct.ofV (plainFor_of_name (by decide)) rfl rfl ?_
  intro x hxl hxR hlk hrt hnm Q hQ
  have hin : (xM x).name = "<init>" := hnm
  obtain ⟨M0, hM0⟩ : ∃ M0 : Mem, M0 = M := ⟨_, rfl⟩
  have hG : nG b 0 F0k W0 M0 M := by rw [hM0]; exact nG.z hz
  show vU x Q G cX1_init RX1 (b + 1) 0 0 0 [some (aR (some b))] [] M
  refine v_aload_n 0 dX1_init_0 rfl rfl ?_
  refine v_objInit ml_X1_3 lo_i lo_c rfl (by rw [hxR]; decide) (by rw [hxR]; decide) dX1_init_1 ?_
  refine v_aload_n 0 dX1_init_4 rfl rfl ?_
  refine v_bipush dX1_init_5 (by decide) ?_
  refine u_newI hs1 rfl (by decide) (by omega) (by rw [hxR]; exact Nat.le_of_ble_eq_true rfl) (by rw [hxR]; exact Nat.le_of_ble_eq_true rfl) dX1_init_7 ?_
  refine v_putFR hin lf_X1_9 rfl (fun _ => rfl) (fun _ => rfl) (shU_at hs0 (by omega)) dX1_init_9 ?_
  refine u_mem (P := nG b 1 F0k W0 M0) (hG.mk (F := F0k) F0k_ne rfl) (fun M hG => ?_)
  show vU x Q G cX1_init RX1 (b + 1 + 1) 1 80 12 [some (aR (some b))] [] M
  refine v_ret hQ (Nat.le_refl _) (Nat.le_refl _) hlk hrt dX1_init_12 ?_
  exact ⟨rfl, rfl, rfl, by rw [← hM0]; exact hG⟩
set_option maxRecDepth 100000 in
set_option maxHeartbeats 1000000 in
theorem c_X2_init {l : Launch} {G : vGG} {M : Mem} {b : Nat} (hb : wiB b) (hz : M.1 b = W0 b) : Ct l yX2_init cX2_init 1 none (rmk 1 6 220 12) G [aR (some b)] (shU (b + 1)) (b + 1) M (vPn (b + 1 + 6) (nG b 6 F0k W0 M)) := by
  refine Ct.ofV (plainFor_of_name (by decide)) rfl rfl ?_
  intro x hxl hxR hlk hrt hnm Q hQ
  have hin : (xM x).name = "<init>" := hnm
  have hlt := wiB_lt hb
  obtain ⟨M0, hM0⟩ : ∃ M0 : Mem, M0 = M := ⟨_, rfl⟩
  have hG : nG b 0 F0k W0 M0 M := by rw [hM0]; exact nG.z hz
  show vU x Q G cX2_init RX2 (b + 1) 0 0 0 [some (aR (some b))] [] M
  refine v_aload_n 0 dX2_init_0 rfl rfl ?_
  refine v_objInit ml_X2_3 lo_i lo_c rfl (by rw [hxR]; decide) (by rw [hxR]; decide) dX2_init_1 ?_
  refine v_aload_n 0 dX2_init_4 rfl rfl ?_
  refine v_bipush dX2_init_5 (by decide) ?_
  refine u_newI (wi_a0 hb) rfl (by decide) (by omega) (by rw [hxR]; exact Nat.le_of_ble_eq_true rfl) (by rw [hxR]; exact Nat.le_of_ble_eq_true rfl) dX2_init_7 ?_
  refine v_putFR hin lf_X2_9 rfl (fun _ => rfl) (fun _ => rfl) (shU_at (wi_o hb) (by omega)) dX2_init_9 ?_
  refine u_mem (P := nG b 1 F0k W0 M0) (hG.mk (F := F0k) F0k_ne rfl) (fun M hG => ?_)
  show vU x Q G cX2_init RX2 (b + 1 + 1) 1 8 12 [some (aR (some b))] [] M
  refine v_aload_n 0 dX2_init_12 rfl rfl ?_
  refine v_iconst dX2_init_13 ?_
  refine u_newI (wi_a1 hb) rfl (by decide) (by omega) (by rw [hxR]; exact Nat.le_of_ble_eq_true rfl) (by rw [hxR]; exact Nat.le_of_ble_eq_true rfl) dX2_init_14 ?_
  refine v_putFR hin lf_X2_15 rfl (fun _ => rfl) (fun _ => rfl) (shU_at (wi_o hb) (by omega)) dX2_init_16 ?_
  refine u_mem (P := nG b 2 F0k W0 M0) (hG.mk (F := F0k) F0k_ne rfl) (fun M hG => ?_)
  show vU x Q G cX2_init RX2 (b + 1 + 2) 2 10 19 [some (aR (some b))] [] M
  refine v_aload_n 0 dX2_init_19 rfl rfl ?_
  refine v_iconst dX2_init_20 ?_
  refine u_newI (wi_a2 hb) rfl (by decide) (by omega) (by rw [hxR]; exact Nat.le_of_ble_eq_true rfl) (by rw [hxR]; exact Nat.le_of_ble_eq_true rfl) dX2_init_21 ?_
  refine v_putFR hin lf_X2_18 rfl (fun _ => rfl) (fun _ => rfl) (shU_at (wi_o hb) (by omega)) dX2_init_23 ?_
  refine u_mem (P := nG b 3 F0k W0 M0) (hG.mk (F := F0k) F0k_ne rfl) (fun M hG => ?_)
  show vU x Q G cX2_init RX2 (b + 1 + 3) 3 12 26 [some (aR (some b))] [] M
  refine v_aload_n 0 dX2_init_26 rfl rfl ?_
  refine v_bipush dX2_init_27 (by decide) ?_
  refine u_newI (wi_a3 hb) rfl (by decide) (by omega) (by rw [hxR]; exact Nat.le_of_ble_eq_true rfl) (by rw [hxR]; exact Nat.le_of_ble_eq_true rfl) dX2_init_29 ?_
  refine v_putFR hin lf_X2_21 rfl (fun _ => rfl) (fun _ => rfl) (shU_at (wi_o hb) (by omega)) dX2_init_31 ?_
  refine u_mem (P := nG b 4 F0k W0 M0) (hG.mk (F := F0k) F0k_ne rfl) (fun M hG => ?_)
  show vU x Q G cX2_init RX2 (b + 1 + 4) 4 20 34 [some (aR (some b))] [] M
  refine v_aload_n 0 dX2_init_34 rfl rfl ?_
  refine v_sipush dX2_init_35 (by decide) ?_
  refine u_newI (wi_a4 hb) rfl (by decide) (by omega) (by rw [hxR]; exact Nat.le_of_ble_eq_true rfl) (by rw [hxR]; exact Nat.le_of_ble_eq_true rfl) dX2_init_38 ?_
  refine v_putFR hin lf_X2_24 rfl (fun _ => rfl) (fun _ => rfl) (shU_at (wi_o hb) (by omega)) dX2_init_40 ?_
  refine u_mem (P := nG b 5 F0k W0 M0) (hG.mk (F := F0k) F0k_ne rfl) (fun M hG => ?_)
  show vU x Q G cX2_init RX2 (b + 1 + 5) 5 212 43 [some (aR (some b))] [] M
  refine v_aload_n 0 dX2_init_43 rfl rfl ?_
  refine v_bipush dX2_init_44 (by decide) ?_
  refine u_newI (wi_a5 hb) rfl (by decide) (by omega) (by rw [hxR]; exact Nat.le_of_ble_eq_true rfl) (by rw [hxR]; exact Nat.le_of_ble_eq_true rfl) dX2_init_46 ?_
  refine v_putFR hin lf_X2_27 rfl (fun _ => rfl) (fun _ => rfl) (shU_at (wi_o hb) (by omega)) dX2_init_48 ?_
  refine u_mem (P := nG b 6 F0k W0 M0) (hG.mk (F := F0k) F0k_ne rfl) (fun M hG => ?_)
  show vU x Q G cX2_init RX2 (b + 1 + 6) 6 220 51 [some (aR (some b))] [] M
  refine v_ret hQ (Nat.le_refl _) (Nat.le_refl _) hlk hrt dX2_init_51 ?_
  exact ⟨rfl, rfl, rfl, by rw [← hM0]; exact hG⟩
