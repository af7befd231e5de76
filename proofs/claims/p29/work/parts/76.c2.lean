/-! ===== constructors: a state ===== -/
def tFs : Nat → Int
  | 0 => 80
  | 1 => 10
  | 2 => 10
  | 3 => 500
  | 4 => 6000
  | 5 => 4000
  | 6 => 120
  | 7 => 4
  | _ => 8
/-- the row of a new organ -/
def sg0 : Sg := fun i => if i = 0 then 3000 else if i < 10 then tFs (i - 1) else if 24 ≤ i ∧ i < 64 then (if (i - 24) % 5 = 0 then (((i - 24) / 5 % 2 : Nat) : Int) else if (i - 24) % 5 = 1 then 4 + 2 * (((i - 24) / 5 : Nat) : Int) else if (i - 24) % 5 = 2 then 20 + 5 * (((i - 24) / 5 : Nat) : Int) else 0) else 0
theorem sg0_st : ∀ s, s < 8 → sg0 (24 + 5 * s) = ((s % 2 : Nat) : Int) ∧ sg0 (24 + 5 * s + 1) = 4 + 2 * (s : Int) ∧ sg0 (24 + 5 * s + 2) = 20 + 5 * (s : Int) ∧ sg0 (24 + 5 * s + 3) = 0 ∧ sg0 (24 + 5 * s + 4) = 0 := by decide +kernel
theorem sg0_hi {i : Nat} (h : 64 ≤ i) : sg0 i = 0 := by unfold sg0; rw [if_neg (by omega), if_neg (by omega), if_neg (by omega)]
theorem sg0_set {k : Nat} (h : k < 9) : sg0 (1 + k) = tFs k := by unfold sg0; rw [if_neg (by omega), if_pos (by omega), Nat.add_sub_cancel_left]
theorem sg0_inv : sInv sg0 := by
  refine ⟨by decide +kernel, by decide +kernel, fun p hp => by rw [sg0_hi (by omega)]; decide, by decide +kernel, by decide +kernel, by decide +kernel⟩
def nS (b : Nat) (M0 M : Mem) : Prop := (∀ i, (i < b ∨ b + 10 ≤ i) → M.1 i = M0.1 i ∧ M.2 i = M0.2 i) ∧ (∀ k, k < 9 → M.2 b k = some (b + 1 + k)) ∧ XS b sg0 M.1
def XI (b s : Nat) (M0 K : Mem) : Prop := (∀ i, (i < b ∨ b + 10 ≤ i) → K.1 i = M0.1 i ∧ K.2 i = M0.2 i) ∧ (∀ k, k < 9 → K.2 b k = some (b + 1 + k)) ∧ (∀ k, K.1 b k = if k = 12 then 3000 else if k = 16 then 1 else 0) ∧ ((∀ k, K.1 (b + 1 + 0) k = if k < s then ((k % 2 : Nat) : Int) else 0) ∧ (∀ k, K.1 (b + 1 + 1) k = if k < s then 4 + 2 * (k : Int) else 0) ∧ (∀ k, K.1 (b + 1 + 2) k = if k < s then 20 + 5 * (k : Int) else 0)) ∧ (∀ i, b + 4 ≤ i → i < b + 10 → ∀ k, K.1 i k = 0)
theorem XI.ini {b : Nat} {M0 M : Mem} (h : nG b 9 F0k W0 M0 M) : XI b 0 M0 (vup (vup M.1 b 12 3000) b 16 1, M.2) := by
  obtain ⟨h1, h2, h3⟩ := h
  refine ⟨fun i hi => ⟨?_, ?_⟩, fun k hk => h3 k hk, fun k => ?_, ⟨fun k => ?_, fun k => ?_, fun k => ?_⟩, fun i p q k => ?_⟩ <;> dsimp only
  · funext a; rw [vup_o (by omega), vup_o (by omega)]; exact congrFun (h1 i (by omega)).1 a
  · exact (h1 i (by omega)).2
  · rw [vup_in, vup_in, h2 b (by omega) (by omega)]
    unfold W0
    by_cases e : k = 16
    · rw [if_pos e, if_neg (by omega), if_pos e]
    · rw [if_neg e]
      by_cases e2 : k = 12
      · rw [if_pos e2, if_pos e2]
      · rw [if_neg e2, if_neg e2, if_neg e]
  · rw [vup_o (by omega), vup_o (by omega), h2 _ (by omega) (by omega), if_neg (by omega)]; rfl
  · rw [vup_o (by omega), vup_o (by omega), h2 _ (by omega) (by omega), if_neg (by omega)]; rfl
  · rw [vup_o (by omega), vup_o (by omega), h2 _ (by omega) (by omega), if_neg (by omega)]; rfl
  · rw [vup_o (by omega), vup_o (by omega), h2 _ (by omega) (by omega)]; rfl
theorem up_lt {g : Nat → Int} {z : Nat → Int} {s k : Nat} {u : Int} (h : g k = if k < s then z k else 0) (e : u = z s) : (if k = s then u else g k) = if k < s + 1 then z k else 0 := by
  by_cases q : k = s
  · rw [if_pos q, if_pos (by omega), q, e]
  · rw [if_neg q, h]
    by_cases q2 : k < s
    · rw [if_pos q2, if_pos (by omega)]
    · rw [if_neg q2, if_neg (by omega)]
theorem XI.step {b s : Nat} {M0 K : Mem} (h : XI b s M0 K) : XI b (s + 1) M0 (vup (vup (vup K.1 (b + 1 + 0) s ((s % 2 : Nat) : Int)) (b + 1 + 1) s (4 + 2 * (s : Int))) (b + 1 + 2) s (20 + 5 * (s : Int)), K.2) := by
  obtain ⟨h1, h2, h3, ⟨h4, h5, h6⟩, h7⟩ := h
  refine ⟨fun i hi => ⟨?_, ?_⟩, h2, fun k => ?_, ⟨fun k => ?_, fun k => ?_, fun k => ?_⟩, fun i p q k => ?_⟩ <;> dsimp only
  · funext a; rw [vup_o (by omega), vup_o (by omega), vup_o (by omega)]; exact congrFun (h1 i hi).1 a
  · exact (h1 i hi).2
  · rw [vup_o (by omega), vup_o (by omega), vup_o (by omega)]; exact h3 k
  · rw [vup_o (by omega), vup_o (by omega), vup_in]; exact up_lt (z := fun k => ((k % 2 : Nat) : Int)) (h4 k) rfl
  · rw [vup_o (by omega), vup_in, vup_o (by omega)]; exact up_lt (z := fun k => 4 + 2 * (k : Int)) (h5 k) rfl
  · rw [vup_in, vup_o (by omega), vup_o (by omega)]; exact up_lt (z := fun k => 20 + 5 * (k : Int)) (h6 k) rfl
  · rw [vup_o (by omega), vup_o (by omega), vup_o (by omega)]; exact h7 i p q k
theorem vcp_o {M : Mem} {a0 sp a1 dp k a : Nat} (h : a ≠ a1) : (vcp M a0 sp a1 dp k).1 a = M.1 a := by
  funext b
  show (if a = a1 ∧ dp ≤ b ∧ b < dp + k then M.1 a0 (sp + (b - dp)) else M.1 a b) = _
  rw [if_neg (fun q => h q.1)]
theorem vcp_s {M : Mem} {a0 a1 k b : Nat} (h : b < k) : (vcp M a0 0 a1 0 k).1 a1 b = M.1 a0 b := by
  show (if a1 = a1 ∧ 0 ≤ b ∧ b < 0 + k then M.1 a0 (0 + (b - 0)) else M.1 a1 b) = _
  rw [if_pos (by omega), Nat.sub_zero, Nat.zero_add]
theorem XI.fin {b : Nat} {M0 K : Mem} (h : XI b 8 M0 K) (hst : ∀ k, k < 9 → M0.1 1000 k = tFs k) (hb : b + 10 ≤ 1000) : nS b M0 (vcp K 1000 0 (b + 1 + 6) 0 9) := by
  obtain ⟨h1, h2, h3, ⟨h4, h5, h6⟩, h7⟩ := h
  have eb : ∀ k, (vcp K 1000 0 (b + 1 + 6) 0 9).1 b k = if k = 12 then 3000 else if k = 16 then 1 else 0 := fun k => by rw [vcp_o (by omega)]; exact h3 k
  refine ⟨fun i hi => ⟨by rw [vcp_o (by omega)]; exact (h1 i hi).1, (h1 i hi).2⟩, h2, fun s hs => ?_, ⟨fun p hp => ?_, fun k hk => ?_, fun m hm => ?_, fun m hm => ?_⟩, ⟨?_, ?_, ?_⟩, ⟨?_, ?_, ?_, ?_, ?_, ?_, ?_, fun q => ?_⟩, ?_⟩
  · have hz := sg0_st s hs
    refine ⟨?_, ?_, ?_, ?_, ?_⟩
    · rw [vcp_o (by omega), h4 s, if_pos hs]; exact hz.1.symm
    · rw [vcp_o (by omega), h5 s, if_pos hs]; exact hz.2.1.symm
    · rw [vcp_o (by omega), h6 s, if_pos hs]; exact hz.2.2.1.symm
    · rw [vcp_o (by omega), h7 _ (by omega) (by omega)]; exact hz.2.2.2.2.symm
    · rw [vcp_o (by omega), h7 _ (by omega) (by omega)]; exact (sg0_hi (by omega)).symm
  · rw [vcp_o (by omega), h7 _ (by omega) (by omega)]; exact (sg0_hi (by omega)).symm
  · rw [vcp_s hk, (h1 1000 (by omega)).1, hst k hk]; exact (sg0_set hk).symm
  · rw [vcp_o (by omega), h7 _ (by omega) (by omega)]
    rcases (show m = 0 ∨ m = 1 by omega) with rfl | rfl <;> decide +kernel
  · rw [vcp_o (by omega), h7 _ (by omega) (by omega)]
    rcases (show m = 0 ∨ m = 1 by omega) with rfl | rfl <;> decide +kernel
  · rw [eb]; decide +kernel
  · rw [eb]; decide +kernel
  · rw [eb]; decide +kernel
  · rw [eb]; decide +kernel
  · rw [eb]; decide +kernel
  · rw [eb]; decide +kernel
  · rw [eb]; decide +kernel
  · rw [eb]; decide +kernel
  · rw [eb]; decide +kernel
  · rw [eb]; decide +kernel
  · exact absurd q (by decide +kernel)
  · decide +kernel
set_option maxRecDepth 100000 in
set_option maxHeartbeats 1000000 in
theorem c_X0_init {l : Launch} {G : vGG} {M : Mem} {b : Nat} (hb : stB b) (hz : M.1 b = W0 b) (hst : ∀ k, k < 9 → M.1 1000 k = tFs k) : Ct l yX0_init cX0_init 2 none (rmk 1 9 245 18) G [aR (some b)] (shU (b + 1)) (b + 1) M (vPn (b + 1 + 9) (nS b M)) := by
  refine Ct.ofV (plainFor_of_name (by decide)) rfl rfl ?_
  intro x hxl hxR hlk hrt hnm Q hQ
  have hin : (xM x).name = "<init>" := hnm
  have hlt := stB_lt hb
  obtain ⟨M0, hM0⟩ : ∃ M0 : Mem, M0 = M := ⟨_, rfl⟩
  have hG : nG b 0 F0k W0 M0 M := by rw [hM0]; exact nG.z hz
  show vU x Q G cX0_init RX0 (b + 1) 0 0 0 [some (aR (some b)), none] [] M
  refine v_aload_n 0 dX0_init_0 rfl rfl ?_
  refine v_objInit ml_X0_3 lo_i lo_c rfl (by rw [hxR]; decide) (by rw [hxR]; decide) dX0_init_1 ?_
  refine v_aload_n 0 dX0_init_4 rfl rfl ?_
  refine v_bipush dX0_init_5 (by decide) ?_
  refine u_newI (st_a0 hb) rfl (by decide) (by omega) (by rw [hxR]; exact Nat.le_of_ble_eq_true rfl) (by rw [hxR]; exact Nat.le_of_ble_eq_true rfl) dX0_init_7 ?_
  refine v_putFR hin lf_X0_9 rfl (fun _ => rfl) (fun _ => rfl) (shU_at (st_o hb) (by omega)) dX0_init_9 ?_
  refine u_mem (P := nG b 1 F0k W0 M0) (hG.mk (F := F0k) F0k_ne rfl) (fun M hG => ?_)
  show vU x Q G cX0_init RX0 (b + 1 + 1) 1 8 12 [some (aR (some b)), none] [] M
  refine v_aload_n 0 dX0_init_12 rfl rfl ?_
  refine v_bipush dX0_init_13 (by decide) ?_
  refine u_newI (st_a1 hb) rfl (by decide) (by omega) (by rw [hxR]; exact Nat.le_of_ble_eq_true rfl) (by rw [hxR]; exact Nat.le_of_ble_eq_true rfl) dX0_init_15 ?_
  refine v_putFR hin lf_X0_15 rfl (fun _ => rfl) (fun _ => rfl) (shU_at (st_o hb) (by omega)) dX0_init_17 ?_
  refine u_mem (P := nG b 2 F0k W0 M0) (hG.mk (F := F0k) F0k_ne rfl) (fun M hG => ?_)
  show vU x Q G cX0_init RX0 (b + 1 + 2) 2 16 20 [some (aR (some b)), none] [] M
  refine v_aload_n 0 dX0_init_20 rfl rfl ?_
  refine v_bipush dX0_init_21 (by decide) ?_
  refine u_newI (st_a2 hb) rfl (by decide) (by omega) (by rw [hxR]; exact Nat.le_of_ble_eq_true rfl) (by rw [hxR]; exact Nat.le_of_ble_eq_true rfl) dX0_init_23 ?_
  refine v_putFR hin lf_X0_18 rfl (fun _ => rfl) (fun _ => rfl) (shU_at (st_o hb) (by omega)) dX0_init_25 ?_
  refine u_mem (P := nG b 3 F0k W0 M0) (hG.mk (F := F0k) F0k_ne rfl) (fun M hG => ?_)
  show vU x Q G cX0_init RX0 (b + 1 + 3) 3 24 28 [some (aR (some b)), none] [] M
  refine v_aload_n 0 dX0_init_28 rfl rfl ?_
  refine v_bipush dX0_init_29 (by decide) ?_
  refine u_newI (st_a3 hb) rfl (by decide) (by omega) (by rw [hxR]; exact Nat.le_of_ble_eq_true rfl) (by rw [hxR]; exact Nat.le_of_ble_eq_true rfl) dX0_init_31 ?_
  refine v_putFR hin lf_X0_21 rfl (fun _ => rfl) (fun _ => rfl) (shU_at (st_o hb) (by omega)) dX0_init_33 ?_
  refine u_mem (P := nG b 4 F0k W0 M0) (hG.mk (F := F0k) F0k_ne rfl) (fun M hG => ?_)
  show vU x Q G cX0_init RX0 (b + 1 + 4) 4 32 36 [some (aR (some b)), none] [] M
  refine v_aload_n 0 dX0_init_36 rfl rfl ?_
  refine v_bipush dX0_init_37 (by decide) ?_
  refine u_newI (st_a4 hb) rfl (by decide) (by omega) (by rw [hxR]; exact Nat.le_of_ble_eq_true rfl) (by rw [hxR]; exact Nat.le_of_ble_eq_true rfl) dX0_init_39 ?_
  refine v_putFR hin lf_X0_24 rfl (fun _ => rfl) (fun _ => rfl) (shU_at (st_o hb) (by omega)) dX0_init_41 ?_
  refine u_mem (P := nG b 5 F0k W0 M0) (hG.mk (F := F0k) F0k_ne rfl) (fun M hG => ?_)
  show vU x Q G cX0_init RX0 (b + 1 + 5) 5 40 44 [some (aR (some b)), none] [] M
  refine v_aload_n 0 dX0_init_44 rfl rfl ?_
  refine v_sipush dX0_init_45 (by decide) ?_
  refine u_newI (st_a5 hb) rfl (by decide) (by omega) (by rw [hxR]; exact Nat.le_of_ble_eq_true rfl) (by rw [hxR]; exact Nat.le_of_ble_eq_true rfl) dX0_init_48 ?_
  refine v_putFR hin lf_X0_27 rfl (fun _ => rfl) (fun _ => rfl) (shU_at (st_o hb) (by omega)) dX0_init_50 ?_
  refine u_mem (P := nG b 6 F0k W0 M0) (hG.mk (F := F0k) F0k_ne rfl) (fun M hG => ?_)
  show vU x Q G cX0_init RX0 (b + 1 + 6) 6 232 53 [some (aR (some b)), none] [] M
  refine v_aload_n 0 dX0_init_53 rfl rfl ?_
  refine v_bipush dX0_init_54 (by decide) ?_
  refine u_newI (st_a6 hb) rfl (by decide) (by omega) (by rw [hxR]; exact Nat.le_of_ble_eq_true rfl) (by rw [hxR]; exact Nat.le_of_ble_eq_true rfl) dX0_init_56 ?_
  refine v_putFR hin lf_X0_30 rfl (fun _ => rfl) (fun _ => rfl) (shU_at (st_o hb) (by omega)) dX0_init_58 ?_
  refine u_mem (P := nG b 7 F0k W0 M0) (hG.mk (F := F0k) F0k_ne rfl) (fun M hG => ?_)
  show vU x Q G cX0_init RX0 (b + 1 + 7) 7 241 61 [some (aR (some b)), none] [] M
  refine v_aload_n 0 dX0_init_61 rfl rfl ?_
  refine v_iconst dX0_init_62 ?_
  refine u_newI (st_a7 hb) rfl (by decide) (by omega) (by rw [hxR]; exact Nat.le_of_ble_eq_true rfl) (by rw [hxR]; exact Nat.le_of_ble_eq_true rfl) dX0_init_63 ?_
  refine v_putFR hin lf_X0_33 rfl (fun _ => rfl) (fun _ => rfl) (shU_at (st_o hb) (by omega)) dX0_init_65 ?_
  refine u_mem (P := nG b 8 F0k W0 M0) (hG.mk (F := F0k) F0k_ne rfl) (fun M hG => ?_)
  show vU x Q G cX0_init RX0 (b + 1 + 8) 8 243 68 [some (aR (some b)), none] [] M
  refine v_aload_n 0 dX0_init_68 rfl rfl ?_
  refine v_iconst dX0_init_69 ?_
  refine u_newI (st_a8 hb) rfl (by decide) (by omega) (by rw [hxR]; exact Nat.le_of_ble_eq_true rfl) (by rw [hxR]; exact Nat.le_of_ble_eq_true rfl) dX0_init_70 ?_
  refine v_putFR hin lf_X0_36 rfl (fun _ => rfl) (fun _ => rfl) (shU_at (st_o hb) (by omega)) dX0_init_72 ?_
  refine u_mem (P := nG b 9 F0k W0 M0) (hG.mk (F := F0k) F0k_ne rfl) (fun M hG => ?_)
  show vU x Q G cX0_init RX0 (b + 1 + 9) 9 245 75 [some (aR (some b)), none] [] M
  refine v_aload_n 0 dX0_init_75 rfl rfl ?_
  refine v_sipush dX0_init_76 (by decide) ?_
  refine v_putI lp_X0_39 rfl rfl (shU_at (st_o hb) (by omega)) dX0_init_79 ?_
  refine v_aload_n 0 dX0_init_82 rfl rfl ?_
  refine v_iconst dX0_init_83 ?_
  refine v_putI lp_X0_43 rfl rfl (shU_at (st_o hb) (by omega)) dX0_init_84 ?_
  refine u_mem (P := XI b 0 M0) (XI.ini hG) (fun M hI => ?_)
  refine v_iconst dX0_init_87 ?_
  refine v_ist1 dX0_init_88 rfl ?_
  have lp89 : ∀ (dd s : Nat) (M : Mem), s + dd = 8 → XI b s M0 M → vU x Q G cX0_init RX0 (b + 1 + 9) 9 245 89 [some (aR (some b)), some (aI (s : Int))] [] M := by
    intro dd
    induction dd with
    | zero =>
      intro s M hd hI
      obtain rfl : s = 8 := by omega
      refine v_iload_n 1 dX0_init_89 rfl rfl ?_
      refine v_bipush dX0_init_90 (by decide) ?_
      refine v_icmp_ge 133 dX0_init_92 (by decide) (by omega) (by decide) (fun h92 => ?_) (fun h92 => ?_)
      · skip
        refine v_getsN (i := 1000) ls_X0_46 (fun U H h => h.1) dX0_init_133 ?_
        refine v_iconst dX0_init_136 ?_
        refine v_aload_n 0 dX0_init_137 rfl rfl ?_
        refine v_getR lk_X0_30 rfl (shU_at (st_o hb) (by omega)) (hI.2.1 6 (by decide)) dX0_init_138 ?_
        refine v_iconst dX0_init_141 ?_
        refine v_bipush dX0_init_142 (by decide) ?_
        refine v_acopy 0 0 9 ml_X0_49 lac_n lac_s lac_i (shU_at (rfl : SH 1000 = _) (by omega)) (shU_at (st_a6 hb) (by omega)) (by omega) (by omega) (by omega) (by omega) (by omega) (by omega) (by omega) rfl (by rw [hxR]; decide) (by rw [hxR]; decide) dX0_init_144 ?_
        refine v_ret hQ (Nat.le_refl _) (Nat.le_refl _) hlk hrt dX0_init_147 ?_
        exact ⟨rfl, rfl, rfl, by rw [← hM0]; exact hI.fin (by rw [hM0]; exact hst) (by omega)⟩
      · skip
        exact absurd h92 (by omega)
    | succ dd ih =>
      intro s M hd hI
      refine v_iload_n 1 dX0_init_89 rfl rfl ?_
      refine v_bipush dX0_init_90 (by decide) ?_
      refine v_icmp_ge 133 dX0_init_92 (by decide) (by omega) (by decide) (fun h92 => ?_) (fun h92 => ?_)
      · skip
        exact absurd h92 (by omega)
      · skip
        refine v_aload_n 0 dX0_init_95 rfl rfl ?_
        refine v_getR lk_X0_9 rfl (shU_at (st_o hb) (by omega)) (hI.2.1 0 (by decide)) dX0_init_96 ?_
        refine v_iload_n 1 dX0_init_99 rfl rfl ?_
        refine v_iload_n 1 dX0_init_100 rfl rfl ?_
        refine v_iconst dX0_init_101 ?_
        refine v_irem dX0_init_102 (by omega) (by decide) (by omega) ?_
        refine u_eqI (u := ((s % 2 : Nat) : Int)) (md_n s 2) ?_
        refine u_iast (j := s) (by omega) (st_a0 hb) (by omega) (by omega) (by omega) dX0_init_103 ?_
        refine v_aload_n 0 dX0_init_104 rfl rfl ?_
        refine v_getR lk_X0_15 rfl (shU_at (st_o hb) (by omega)) (hI.2.1 1 (by decide)) dX0_init_105 ?_
        refine v_iload_n 1 dX0_init_108 rfl rfl ?_
        refine v_iconst dX0_init_109 ?_
        refine v_iconst dX0_init_110 ?_
        refine v_iload_n 1 dX0_init_111 rfl rfl ?_
        refine v_imul dX0_init_112 ?_
        refine v_iadd dX0_init_113 ?_
        refine u_iast (j := s) (by omega) (st_a1 hb) (by omega) (by omega) (by omega) dX0_init_114 ?_
        refine v_aload_n 0 dX0_init_115 rfl rfl ?_
        refine v_getR lk_X0_18 rfl (shU_at (st_o hb) (by omega)) (hI.2.1 2 (by decide)) dX0_init_116 ?_
        refine v_iload_n 1 dX0_init_119 rfl rfl ?_
        refine v_bipush dX0_init_120 (by decide) ?_
        refine v_iconst dX0_init_122 ?_
        refine v_iload_n 1 dX0_init_123 rfl rfl ?_
        refine v_imul dX0_init_124 ?_
        refine v_iadd dX0_init_125 ?_
        refine u_iast (j := s) (by omega) (st_a2 hb) (by omega) (by omega) (by omega) dX0_init_126 ?_
        refine v_iinc1 dX0_init_127 rfl ?_
        refine v_goto 89 dX0_init_130 (by decide) ?_
        exact ih (s + 1) _ (by omega) hI.step
  exact lp89 8 0 M rfl hI
