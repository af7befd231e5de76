/-! ===== leaf methods ===== -/
theorem fd_b {a b : Int} (hb : 0 < b) : a.tdiv b * b = a - a.tmod b := by
  have := Int.mul_tdiv_add_tmod a b
  rw [Int.mul_comm] at this
  omega
theorem fd_m {a b : Int} (hb : 0 < b) : (0 ≤ a → 0 ≤ a.tmod b ∧ a.tmod b ≤ a) ∧ (a < 0 → a ≤ a.tmod b ∧ a.tmod b ≤ 0) := by
  have key : ∀ c : Int, 0 ≤ c → 0 ≤ c % b ∧ c % b ≤ c := fun c hc => ⟨Int.emod_nonneg _ (by omega), by
    have h1 := Int.mul_ediv_add_emod c b
    have h2 := Int.mul_nonneg (show 0 ≤ b by omega) (Int.ediv_nonneg hc (show 0 ≤ b by omega))
    omega⟩
  refine ⟨fun h => ?_, fun h => ?_⟩
  · rw [Int.tmod_eq_emod_of_nonneg h]
    exact key a h
  · have e : a.tmod b = -((-a) % b) := by
      rw [← Int.tmod_eq_emod_of_nonneg (show 0 ≤ -a by omega), Int.neg_tmod, Int.neg_neg]
    have := key (-a) (by omega)
    omega
theorem fd_R {a b : Int} (ha : R32 a) (hb : 0 < b ∧ b ≤ 2147483647) : R32 (a.tdiv b * b) := by
  rw [fd_b hb.1]
  have h := fd_m (a := a) hb.1
  by_cases h0 : 0 ≤ a
  · have := h.1 h0; omega
  · have := h.2 (by omega); omega
theorem fd_1 {a b : Int} (hb : 0 < b) (h : ¬ a.tdiv b * b = a) (h0 : a < 0) : a.tdiv b - 1 = a / b := by
  rw [fd_b hb] at h
  have h2 := (fd_m (a := a) hb).2 h0
  rw [nu_fdiv hb, if_pos (by omega)]
theorem fd_2 {a b : Int} (hb : 0 < b) (h : a.tdiv b * b = a) : a.tdiv b = a / b := by
  rw [fd_b hb] at h
  rw [nu_fdiv hb, if_neg (by omega)]
theorem fd_3 {a b : Int} (hb : 0 < b) (h : 0 ≤ a) : a.tdiv b = a / b := nu_tdiv h
set_option maxRecDepth 100000 in
set_option maxHeartbeats 400000 in
theorem c_J9_floorDiv {l : Launch} {G : vGG} {M : Mem} {a b : Int} (ha : R32 a) (hb : 0 < b ∧ b ≤ 2147483647) : Cv l yJ9_floorDiv_7cf53 cJ9_floorDiv_7cf53 3 (some .int) (rmo 0 0) G [aI a, aI b] M (some (aI (a / b))) M := by
  refine Co.ofV (by decide +kernel) rfl rfl ?_
  intro x hxl hxR hlk hrt Q hQ
  show vO x Q G cJ9_floorDiv_7cf53 RJ9 0 [some (aI a), some (aI b), none] [] M
  refine v_iload_n 0 dJ9_floorDiv_7cf53_0 rfl rfl ?_
  refine v_iload_n 1 dJ9_floorDiv_7cf53_1 rfl rfl ?_
  refine v_idiv dJ9_floorDiv_7cf53_2 ha (by omega) (by omega) ?_
  refine v_ist2 dJ9_floorDiv_7cf53_3 rfl ?_
  refine v_iload_n 0 dJ9_floorDiv_7cf53_4 rfl rfl ?_
  refine v_iload_n 1 dJ9_floorDiv_7cf53_5 rfl rfl ?_
  refine v_ixor dJ9_floorDiv_7cf53_6 ?_
  have e7 := nu_xs ha (show 0 ≤ b ∧ b ≤ 2147483647 by omega)
  have r7 : R32 (vxor a b) := i32_T _
  refine v_if_ge 21 dJ9_floorDiv_7cf53_7 (by decide) r7 (fun h7 => ?_) (fun h7 => ?_)
  · skip
    refine v_iload_n 2 dJ9_floorDiv_7cf53_21 rfl rfl ?_
    refine o_iret hQ hlk hrt dJ9_floorDiv_7cf53_22 ?_
    exact ⟨by first | rw [fd_2 hb.1 h14] | rw [fd_3 hb.1 (by omega)], rfl⟩
  · skip
    refine v_iload_n 2 dJ9_floorDiv_7cf53_10 rfl rfl ?_
    refine v_iload_n 1 dJ9_floorDiv_7cf53_11 rfl rfl ?_
    refine v_imul dJ9_floorDiv_7cf53_12 ?_
    refine v_iload_n 0 dJ9_floorDiv_7cf53_13 rfl rfl ?_
    refine v_icmp_eq 21 dJ9_floorDiv_7cf53_14 (by decide) (fd_R ha hb) ha (fun h14 => ?_) (fun h14 => ?_)
    · skip
      refine v_iload_n 2 dJ9_floorDiv_7cf53_21 rfl rfl ?_
      refine o_iret hQ hlk hrt dJ9_floorDiv_7cf53_22 ?_
      exact ⟨by first | rw [fd_2 hb.1 h14] | rw [fd_3 hb.1 (by omega)], rfl⟩
    · skip
      refine v_iload_n 2 dJ9_floorDiv_7cf53_17 rfl rfl ?_
      refine v_iconst dJ9_floorDiv_7cf53_18 ?_
      refine v_isub dJ9_floorDiv_7cf53_19 ?_
      refine o_iret hQ hlk hrt dJ9_floorDiv_7cf53_20 ?_
      exact ⟨by rw [fd_1 hb.1 h14 (e7.mp (by omega))], rfl⟩
set_option maxRecDepth 100000 in
set_option maxHeartbeats 400000 in
theorem c_J9_max {l : Launch} {G : vGG} {M : Mem} {a b : Int} (ha : R32 a) (hb : R32 b) : Cv l yJ9_max_7cf53 cJ9_max_7cf53 2 (some .int) (rmo 0 0) G [aI a, aI b] M (some (aI (max a b))) M := by
  refine Co.ofV (by decide +kernel) rfl rfl ?_
  intro x hxl hxR hlk hrt Q hQ
  show vO x Q G cJ9_max_7cf53 RJ9 0 [some (aI a), some (aI b)] [] M
  refine v_iload_n 0 dJ9_max_7cf53_0 rfl rfl ?_
  refine v_iload_n 1 dJ9_max_7cf53_1 rfl rfl ?_
  refine v_icmp_lt 9 dJ9_max_7cf53_2 (by decide) ha hb (fun h2 => ?_) (fun h2 => ?_)
  · skip
    refine v_iload_n 1 dJ9_max_7cf53_9 rfl rfl ?_
    refine o_iret hQ hlk hrt dJ9_max_7cf53_10 ?_
    exact ⟨by congr 2; omega, rfl⟩
  · skip
    refine v_iload_n 0 dJ9_max_7cf53_5 rfl rfl ?_
    refine v_goto 10 dJ9_max_7cf53_6 (by decide) ?_
    refine o_iret hQ hlk hrt dJ9_max_7cf53_10 ?_
    exact ⟨by congr 2; omega, rfl⟩
set_option maxRecDepth 100000 in
set_option maxHeartbeats 400000 in
theorem c_J9_min {l : Launch} {G : vGG} {M : Mem} {a b : Int} (ha : R32 a) (hb : R32 b) : Cv l yJ9_min_7cf53 cJ9_min_7cf53 2 (some .int) (rmo 0 0) G [aI a, aI b] M (some (aI (min a b))) M := by
  refine Co.ofV (by decide +kernel) rfl rfl ?_
  intro x hxl hxR hlk hrt Q hQ
  show vO x Q G cJ9_min_7cf53 RJ9 0 [some (aI a), some (aI b)] [] M
  refine v_iload_n 0 dJ9_min_7cf53_0 rfl rfl ?_
  refine v_iload_n 1 dJ9_min_7cf53_1 rfl rfl ?_
  refine v_icmp_gt 9 dJ9_min_7cf53_2 (by decide) ha hb (fun h2 => ?_) (fun h2 => ?_)
  · skip
    refine v_iload_n 1 dJ9_min_7cf53_9 rfl rfl ?_
    refine o_iret hQ hlk hrt dJ9_min_7cf53_10 ?_
    exact ⟨by congr 2; omega, rfl⟩
  · skip
    refine v_iload_n 0 dJ9_min_7cf53_5 rfl rfl ?_
    refine v_goto 10 dJ9_min_7cf53_6 (by decide) ?_
    refine o_iret hQ hlk hrt dJ9_min_7cf53_10 ?_
    exact ⟨by congr 2; omega, rfl⟩
set_option maxRecDepth 100000 in
set_option maxHeartbeats 400000 in
theorem c_X3_isWithin {l : Launch} {G : vGG} {M : Mem} {v a b : Int} (hv : R32 v) (ha : R32 a) (hb : R32 b) : Cv l yX3_isWithin cX3_isWithin 3 (some .boolean) (rmo 0 0) G [aI v, aI a, aI b] M (some (aI (bP (a ≤ v ∧ v ≤ b)))) M := by
  refine Co.ofV (plainFor_of_name (by decide)) rfl rfl ?_
  intro x hxl hxR hlk hrt Q hQ
  show vO x Q G cX3_isWithin RX3 0 [some (aI v), some (aI a), some (aI b)] [] M
  refine v_iload_n 0 dX3_isWithin_0 rfl rfl ?_
  refine v_iload_n 1 dX3_isWithin_1 rfl rfl ?_
  refine v_icmp_lt 14 dX3_isWithin_2 (by decide) (by omega) (by omega) (fun h2 => ?_) (fun h2 => ?_)
  · skip
    refine v_iconst dX3_isWithin_14 ?_
    refine o_zret hQ hlk hrt (by decide) dX3_isWithin_15 ?_
    exact ⟨by congr 2; first | rw [bP_t (by omega)] | rw [bP_f (by omega)], rfl⟩
  · skip
    refine v_iload_n 0 dX3_isWithin_5 rfl rfl ?_
    refine v_iload_n 2 dX3_isWithin_6 rfl rfl ?_
    refine v_icmp_gt 14 dX3_isWithin_7 (by decide) (by omega) (by omega) (fun h7 => ?_) (fun h7 => ?_)
    · skip
      refine v_iconst dX3_isWithin_14 ?_
      refine o_zret hQ hlk hrt (by decide) dX3_isWithin_15 ?_
      exact ⟨by congr 2; first | rw [bP_t (by omega)] | rw [bP_f (by omega)], rfl⟩
    · skip
      refine v_iconst dX3_isWithin_10 ?_
      refine v_goto 15 dX3_isWithin_11 (by decide) ?_
      refine o_zret hQ hlk hrt (by decide) dX3_isWithin_15 ?_
      exact ⟨by congr 2; first | rw [bP_t (by omega)] | rw [bP_f (by omega)], rfl⟩
set_option maxRecDepth 100000 in
set_option maxHeartbeats 400000 in
theorem c_X3_isStop {l : Launch} {G : vGG} {M : Mem} {v : Int} (hv : R32 v) : Cv l yX3_isStop cX3_isStop 1 (some .boolean) (rmo 1 22) G [aI v] M (some (aI (bP (0 ≤ v ∧ v ≤ 7)))) M := by
  refine Co.ofV (plainFor_of_name (by decide)) rfl rfl ?_
  intro x hxl hxR hlk hrt Q hQ
  show vO x Q G cX3_isStop RX3 0 [some (aI v)] [] M
  refine v_iload_n 0 dX3_isStop_0 rfl rfl ?_
  refine v_iconst dX3_isStop_1 ?_
  refine v_bipush dX3_isStop_2 (by decide) ?_
  refine oSv3 (c_X3_isWithin hv (by decide) (by decide)) k0_X3_isWithin ki_X3_isWithin ml_X3_55 (vRo_of hxR (by decide) (by decide)) dX3_isStop_4 (Nat.le_of_ble_eq_true rfl) ?_
  refine o_zret hQ hlk hrt (bP_01 _) dX3_isStop_7 ?_
  exact ⟨rfl, rfl⟩
set_option maxRecDepth 100000 in
set_option maxHeartbeats 400000 in
theorem c_X3_isManual {l : Launch} {G : vGG} {M : Mem} {v : Int} (hv : R32 v) : Cv l yX3_isManual cX3_isManual 1 (some .boolean) (rmo 1 22) G [aI v] M (some (aI (bP (0 ≤ v ∧ v ≤ 1)))) M := by
  refine Co.ofV (plainFor_of_name (by decide)) rfl rfl ?_
  intro x hxl hxR hlk hrt Q hQ
  show vO x Q G cX3_isManual RX3 0 [some (aI v)] [] M
  refine v_iload_n 0 dX3_isManual_0 rfl rfl ?_
  refine v_iconst dX3_isManual_1 ?_
  refine v_iconst dX3_isManual_2 ?_
  refine oSv3 (c_X3_isWithin hv (by decide) (by decide)) k0_X3_isWithin ki_X3_isWithin ml_X3_55 (vRo_of hxR (by decide) (by decide)) dX3_isManual_3 (Nat.le_of_ble_eq_true rfl) ?_
  refine o_zret hQ hlk hrt (bP_01 _) dX3_isManual_6 ?_
  exact ⟨rfl, rfl⟩
set_option maxRecDepth 100000 in
set_option maxHeartbeats 400000 in
theorem c_X3_isKey {l : Launch} {G : vGG} {M : Mem} {v : Int} (hv : R32 v) : Cv l yX3_isKey cX3_isKey 1 (some .boolean) (rmo 1 22) G [aI v] M (some (aI (bP (0 ≤ v ∧ v ≤ 23)))) M := by
  refine Co.ofV (plainFor_of_name (by decide)) rfl rfl ?_
  intro x hxl hxR hlk hrt Q hQ
  show vO x Q G cX3_isKey RX3 0 [some (aI v)] [] M
  refine v_iload_n 0 dX3_isKey_0 rfl rfl ?_
  refine v_iconst dX3_isKey_1 ?_
  refine v_bipush dX3_isKey_2 (by decide) ?_
  refine oSv3 (c_X3_isWithin hv (by decide) (by decide)) k0_X3_isWithin ki_X3_isWithin ml_X3_55 (vRo_of hxR (by decide) (by decide)) dX3_isKey_4 (Nat.le_of_ble_eq_true rfl) ?_
  refine o_zret hQ hlk hrt (bP_01 _) dX3_isKey_7 ?_
  exact ⟨rfl, rfl⟩
set_option maxRecDepth 100000 in
set_option maxHeartbeats 400000 in
theorem c_X3_isSlot {l : Launch} {G : vGG} {M : Mem} {v : Int} (hv : R32 v) : Cv l yX3_isSlot cX3_isSlot 1 (some .boolean) (rmo 1 22) G [aI v] M (some (aI (bP (0 ≤ v ∧ v ≤ 1)))) M := by
  refine Co.ofV (plainFor_of_name (by decide)) rfl rfl ?_
  intro x hxl hxR hlk hrt Q hQ
  show vO x Q G cX3_isSlot RX3 0 [some (aI v)] [] M
  refine v_iload_n 0 dX3_isSlot_0 rfl rfl ?_
  refine v_iconst dX3_isSlot_1 ?_
  refine v_iconst dX3_isSlot_2 ?_
  refine oSv3 (c_X3_isWithin hv (by decide) (by decide)) k0_X3_isWithin ki_X3_isWithin ml_X3_55 (vRo_of hxR (by decide) (by decide)) dX3_isSlot_3 (Nat.le_of_ble_eq_true rfl) ?_
  refine o_zret hQ hlk hrt (bP_01 _) dX3_isSlot_6 ?_
  exact ⟨rfl, rfl⟩
set_option maxRecDepth 100000 in
set_option maxHeartbeats 400000 in
theorem c_X3_pipeIndex {l : Launch} {G : vGG} {M : Mem} {s k : Int} : Cv l yX3_pipeIndex cX3_pipeIndex 2 (some .int) (rmo 0 0) G [aI s, aI k] M (some (aI (s * 24 + k))) M := by
  refine Co.ofV (plainFor_of_name (by decide)) rfl rfl ?_
  intro x hxl hxR hlk hrt Q hQ
  show vO x Q G cX3_pipeIndex RX3 0 [some (aI s), some (aI k)] [] M
  refine v_iload_n 0 dX3_pipeIndex_0 rfl rfl ?_
  refine v_bipush dX3_pipeIndex_1 (by decide) ?_
  refine v_imul dX3_pipeIndex_3 ?_
  refine v_iload_n 1 dX3_pipeIndex_4 rfl rfl ?_
  refine v_iadd dX3_pipeIndex_5 ?_
  refine o_iret hQ hlk hrt dX3_pipeIndex_6 ?_
  exact ⟨rfl, rfl⟩
set_option maxRecDepth 100000 in
set_option maxHeartbeats 400000 in
theorem c_X3_divide {l : Launch} {G : vGG} {M : Mem} {a b : Int} (ha : R32 a) (hb : 0 < b ∧ b ≤ 2147483647) : Cv l yX3_divide cX3_divide 2 (some .int) (rmo 1 22) G [aI a, aI b] M (some (aI (a / b))) M := by
  refine Co.ofV (plainFor_of_name (by decide)) rfl rfl ?_
  intro x hxl hxR hlk hrt Q hQ
  show vO x Q G cX3_divide RX3 0 [some (aI a), some (aI b)] [] M
  refine v_iload_n 1 dX3_divide_0 rfl rfl ?_
  refine v_if_ne 8 dX3_divide_1 (by decide) (by omega) (fun h1 => ?_) (fun h1 => ?_)
  · skip
    refine v_iload_n 0 dX3_divide_8 rfl rfl ?_
    refine v_iload_n 1 dX3_divide_9 rfl rfl ?_
    refine oSv2 (c_J9_floorDiv ha hb) k0_J9_floorDiv ki_J9_floorDiv ml_X3_325 (vRo_of hxR (by decide) (by decide)) dX3_divide_10 (Nat.le_of_ble_eq_true rfl) ?_
    refine o_iret hQ hlk hrt dX3_divide_13 ?_
    exact ⟨rfl, rfl⟩
  · skip
    exact absurd h1 (by omega)
theorem dn_R {a b : Int} (ha : R32 a) (hb : 0 < b ∧ b ≤ 2147483647) : R32 (a.tmod b) := by
  have h := fd_m (a := a) hb.1
  by_cases h0 : 0 ≤ a
  · have := h.1 h0; omega
  · have := h.2 (by omega); omega
theorem rs_p0 : ∀ b, b < 9 → ∀ a, a < 9 → a + b ≤ 8 → (2 ^ b - 1) * 2 ^ a < 256 := by decide
theorem rs_p (b : Nat) (hb : b ≤ 8) (a : Nat) (h : a + b ≤ 8) : (2 ^ b - 1) * 2 ^ a < 256 := rs_p0 b (by omega) a (by omega) h
theorem rs_e {a b : Nat} (h : a + b ≤ 8) : vshl (vshl 1 (b : Int) - 1) (a : Int) = (((2 ^ b - 1) * 2 ^ a : Nat) : Int) := by
  have hp := rs_p b (by omega) a h
  have h1 : 1 ≤ 2 ^ b := Nat.one_le_two_pow
  have h2 : 2 ^ b ≤ 256 := Nat.pow_le_pow_right (by decide) (show b ≤ 8 by omega)
  have e : vshl 1 (b : Int) - 1 = ((2 ^ b - 1 : Nat) : Int) := by
    rw [nu_shl (by decide) (by omega) (by show 1 * 2 ^ b < _; omega)]
    show ((1 * 2 ^ b : Nat) : Int) - 1 = _
    omega
  rw [e, nu_shl (Int.natCast_nonneg _) (by omega) (by rw [Int.toNat_natCast]; omega), Int.toNat_natCast]
set_option maxRecDepth 100000 in
set_option maxHeartbeats 400000 in
theorem c_X3_isIn {l : Launch} {G : vGG} {M : Mem} {v : Int} {k : Nat} (h0 : 0 ≤ v) (h1 : v ≤ 2147483647) (hk : k < 32) : Cv l yX3_isIn cX3_isIn 2 (some .boolean) (rmo 0 0) G [aI v, aI (k : Int)] M (some (aI (bP (bt v k = true)))) M := by
  refine Co.ofV (plainFor_of_name (by decide)) rfl rfl ?_
  intro x hxl hxR hlk hrt Q hQ
  show vO x Q G cX3_isIn RX3 0 [some (aI v), some (aI (k : Int))] [] M
  refine v_iload_n 0 dX3_isIn_0 rfl rfl ?_
  refine v_iload_n 1 dX3_isIn_1 rfl rfl ?_
  refine v_ishr dX3_isIn_2 ?_
  refine v_iconst dX3_isIn_3 ?_
  refine v_iand dX3_isIn_4 ?_
  refine o_eqI (nu_bit h0 h1 hk) ?_
  refine v_if_eq 12 dX3_isIn_5 (by decide) (bP_R _) (fun h5 => ?_) (fun h5 => ?_)
  · skip
    refine v_iconst dX3_isIn_12 ?_
    refine o_zret hQ hlk hrt (by decide) dX3_isIn_13 ?_
    exact ⟨by first | rw [bP_f (bP_0.mp h5)] | rw [bP_t (bP_n0.mp h5)], rfl⟩
  · skip
    refine v_iconst dX3_isIn_8 ?_
    refine v_goto 13 dX3_isIn_9 (by decide) ?_
    refine o_zret hQ hlk hrt (by decide) dX3_isIn_13 ?_
    exact ⟨by first | rw [bP_f (bP_0.mp h5)] | rw [bP_t (bP_n0.mp h5)], rfl⟩
set_option maxRecDepth 100000 in
set_option maxHeartbeats 400000 in
theorem c_X3_with {l : Launch} {G : vGG} {M : Mem} {v z : Int} {k : Nat} (h0 : 0 ≤ v) (h1 : v ≤ 2147483647) (hk : k < 31) (hz : R32 z) : Cv l yX3_with cX3_with 3 (some .int) (rmo 0 0) G [aI v, aI (k : Int), aI z] M (some (aI ((wth v.toNat k (decide (z ≠ 0)) : Nat) : Int))) M := by
  refine Co.ofV (plainFor_of_name (by decide)) rfl rfl ?_
  intro x hxl hxR hlk hrt Q hQ
  show vO x Q G cX3_with RX3 0 [some (aI v), some (aI (k : Int)), some (aI z)] [] M
  refine v_iload_n 2 dX3_with_0 rfl rfl ?_
  refine v_if_eq 12 dX3_with_1 (by decide) hz (fun h1_ => ?_) (fun h1_ => ?_)
  · skip
    refine v_iload_n 0 dX3_with_12 rfl rfl ?_
    refine v_iconst dX3_with_13 ?_
    refine v_iload_n 1 dX3_with_14 rfl rfl ?_
    refine v_ishl dX3_with_15 ?_
    refine v_iconst dX3_with_16 ?_
    refine v_ixor dX3_with_17 ?_
    refine v_iand dX3_with_18 ?_
    refine o_iret hQ hlk hrt dX3_with_19 ?_
    first | exact ⟨by rw [nu_on h0 h1 hk, decide_eq_true h1_], rfl⟩ | exact ⟨by rw [nu_off h0 h1 hk, decide_eq_false (fun q => q h1_)], rfl⟩
  · skip
    refine v_iload_n 0 dX3_with_4 rfl rfl ?_
    refine v_iconst dX3_with_5 ?_
    refine v_iload_n 1 dX3_with_6 rfl rfl ?_
    refine v_ishl dX3_with_7 ?_
    refine v_ior dX3_with_8 ?_
    refine v_goto 19 dX3_with_9 (by decide) ?_
    refine o_iret hQ hlk hrt dX3_with_19 ?_
    first | exact ⟨by rw [nu_on h0 h1 hk, decide_eq_true h1_], rfl⟩ | exact ⟨by rw [nu_off h0 h1 hk, decide_eq_false (fun q => q h1_)], rfl⟩
set_option maxRecDepth 100000 in
set_option maxHeartbeats 400000 in
theorem c_X3_rowOfStops {l : Launch} {G : vGG} {M : Mem} {a b : Nat} (h : a + b ≤ 8) : Cv l yX3_rowOfStops cX3_rowOfStops 2 (some .int) (rmo 0 0) G [aI (a : Int), aI (b : Int)] M (some (aI (((2 ^ b - 1) * 2 ^ a : Nat) : Int))) M := by
  refine Co.ofV (plainFor_of_name (by decide)) rfl rfl ?_
  intro x hxl hxR hlk hrt Q hQ
  show vO x Q G cX3_rowOfStops RX3 0 [some (aI (a : Int)), some (aI (b : Int))] [] M
  refine v_iconst dX3_rowOfStops_0 ?_
  refine v_iload_n 1 dX3_rowOfStops_1 rfl rfl ?_
  refine v_ishl dX3_rowOfStops_2 ?_
  refine v_iconst dX3_rowOfStops_3 ?_
  refine v_isub dX3_rowOfStops_4 ?_
  refine v_iload_n 0 dX3_rowOfStops_5 rfl rfl ?_
  refine v_ishl dX3_rowOfStops_6 ?_
  refine o_iret hQ hlk hrt dX3_rowOfStops_7 ?_
  exact ⟨by rw [rs_e h], rfl⟩
set_option maxRecDepth 100000 in
set_option maxHeartbeats 400000 in
theorem c_X3_mix {l : Launch} {G : vGG} {M : Mem} {h v : Int} : Cv l yX3_mix cX3_mix 3 (some .long) (rmo 0 0) G [aL h, aI v] M (some (aL (31 * h + vw v))) M := by
  refine Co.ofV (plainFor_of_name (by decide)) rfl rfl ?_
  intro x hxl hxR hlk hrt Q hQ
  show vO x Q G cX3_mix RX3 0 [some (aL h), none, some (aI v)] [] M
  refine v_ldc2 (31) kc_X3_298 (by decide) dX3_mix_0 ?_
  refine v_lload_n 0 dX3_mix_3 rfl rfl ?_
  refine v_lmul dX3_mix_4 ?_
  refine v_iload_n 2 dX3_mix_5 rfl rfl ?_
  refine v_i2l dX3_mix_6 ?_
  refine v_ladd dX3_mix_7 ?_
  refine o_lret hQ hlk hrt dX3_mix_8 ?_
  exact ⟨rfl, rfl⟩
