/-! ===== the class: what is told ===== -/
def pSum (z : Nat → Nat) : Nat → Nat
  | 0 => 0
  | n + 1 => pSum z n + pc (z n)
theorem pSum_le (z : Nat → Nat) : ∀ n, pSum z n ≤ 24 * n
  | 0 => Nat.le_refl _
  | n + 1 => by
    have := pSum_le z n
    have := pc_le (z n)
    rw [pSum]
    omega
def zSum (z : Nat → Int) : Nat → Int
  | 0 => 0
  | n + 1 => zSum z n + z n
theorem sCi_sum (v : Sg) : ∀ n, sCi v n = pSum (fun s => (v (256 + s)).toNat) n
  | 0 => rfl
  | n + 1 => by rw [sCi, pSum, sCi_sum v n]
theorem sOm_sum (v : Sg) (st : Nat) (pr : Bool) : ∀ n, sOm v st pr n = pSum (fun s => sOpn v st pr s) n
  | 0 => rfl
  | n + 1 => by rw [sOm, pSum, sOm_sum v st pr n]
theorem sGo_sum (v : Sg) : ∀ n, sGo v n = zSum (fun s => v (24 + 5 * s + 4)) n
  | 0 => rfl
  | n + 1 => by rw [sGo, zSum, sGo_sum v n]
theorem sSp_k (v : Sg) (st : Nat) (pr : Bool) (s : Nat) : ∀ k, k ≤ 24 → sSp v st pr (24 * s + k) = sSp v st pr (24 * s) + (List.range k).countP (fun i => decide (sRs v st pr s i = 0))
  | 0, _ => rfl
  | k + 1, hk => by
    rw [← Nat.add_assoc, sSp, (p_div (show k < 24 by omega)).1, (p_div (show k < 24 by omega)).2, sSp_k v st pr s k (by omega), List.range_succ, List.countP_append, List.countP_cons, List.countP_nil]
    by_cases h : sRs v st pr s k = 0
    · rw [if_pos h, if_pos (decide_eq_true h)]
      omega
    · rw [if_neg h, if_neg (by simpa using h)]
      omega
theorem sSp_sum (v : Sg) (st : Nat) (pr : Bool) : ∀ n, sSp v st pr (24 * n) = pSum (fun s => sSk v st pr s 24) n
  | 0 => rfl
  | n + 1 => by
    rw [show 24 * (n + 1) = 24 * n + 24 by omega, sSp_k v st pr n 24 (Nat.le_refl _), sSp_sum v st pr n, pSum, pc, pcf_bits]
    congr 1
    refine cnt_congr 24 (fun j hj => ?_)
    have h := sSk_bit v st pr n 24 (Nat.le_refl _) j (by omega)
    by_cases q : sRs v st pr n j = 0
    · rw [decide_eq_true q, h.mpr ⟨hj, q⟩]
    · rw [decide_eq_false q]
      have : ¬ (sSk v st pr n 24).testBit j = true := fun e => q (h.mp e).2
      simpa using this
set_option maxRecDepth 100000 in
set_option maxHeartbeats 400000 in
theorem c_X3_countOfAll {l : Launch} {G : vGG} {M : Mem} {i : Nat} (hs : SH i = some (.inr (0, 8))) {z : Nat → Nat} (hz : ∀ s, s < 8 → M.1 i s = ((z s : Nat) : Int) ∧ z s < 16777216) : Cv l yX3_countOfAll cX3_countOfAll 6 (some .int) (rmo 1 20) G [aR (some i)] M (some (aI ((pSum z 8 : Nat) : Int))) M := by
  refine Co.ofV (plainFor_of_name (by decide)) rfl rfl ?_
  intro x hxl hxR hlk hrt Q hQ
  show vO x Q G cX3_countOfAll RX3 0 [some (aR (some i)), none, none, none, none, none] [] M
  refine v_iconst dX3_countOfAll_0 ?_
  refine v_ist1 dX3_countOfAll_1 rfl ?_
  refine v_aload_n 0 dX3_countOfAll_2 rfl rfl ?_
  refine v_ast2 dX3_countOfAll_3 rfl ?_
  refine v_aload_n 2 dX3_countOfAll_4 rfl rfl ?_
  refine v_alen (by decide) hs dX3_countOfAll_5 ?_
  refine v_ist3 dX3_countOfAll_6 rfl ?_
  refine v_iconst dX3_countOfAll_7 ?_
  refine v_ist4 dX3_countOfAll_8 rfl ?_
  have lp10 : ∀ (dd s : Nat) (c5 : Option AV), s + dd = 8 → vO x Q G cX3_countOfAll RX3 10 [some (aR (some i)), some (aI (((pSum z s : Nat) : Int))), some (aR (some i)), some (aI 8), some (aI (s : Int)), c5] [] M := by
    intro dd
    induction dd with
    | zero =>
      intro s c5 hd
      obtain rfl : s = 8 := by omega
      refine v_iload dX3_countOfAll_10 rfl ?_
      refine v_iload_n 3 dX3_countOfAll_12 rfl rfl ?_
      refine v_icmp_ge 36 dX3_countOfAll_13 (by decide) (by omega) (by decide) (fun h13 => ?_) (fun h13 => ?_)
      · skip
        refine v_iload_n 1 dX3_countOfAll_36 rfl rfl ?_
        refine o_iret hQ hlk hrt dX3_countOfAll_37 ?_
        exact ⟨rfl, rfl⟩
      · skip
        exact absurd h13 (by omega)
    | succ dd ih =>
      intro s c5 hd
      refine v_iload dX3_countOfAll_10 rfl ?_
      refine v_iload_n 3 dX3_countOfAll_12 rfl rfl ?_
      refine v_icmp_ge 36 dX3_countOfAll_13 (by decide) (by omega) (by decide) (fun h13 => ?_) (fun h13 => ?_)
      · skip
        exact absurd h13 (by omega)
      · skip
        refine v_aload_n 2 dX3_countOfAll_16 rfl rfl ?_
        refine v_iload dX3_countOfAll_17 rfl ?_
        refine o_iald (j := s) (u := ((z s : Nat) : Int)) hs (by omega) (by omega) (hz s (by omega)).1 dX3_countOfAll_19 ?_
        refine v_ist5 dX3_countOfAll_20 rfl ?_
        refine v_iload_n 1 dX3_countOfAll_22 rfl rfl ?_
        refine v_iload dX3_countOfAll_23 rfl ?_
        refine oSv1 (c_J6_bitCount (hz s (by omega)).2) k0_J6_bitCount ki_J6_bitCount ml_X3_115 (vRo_of hxR (by decide) (by decide)) dX3_countOfAll_25 (Nat.le_of_ble_eq_true rfl) ?_
        refine v_iadd dX3_countOfAll_28 ?_
        refine o_eqI (u := ((pSum z (s + 1) : Nat) : Int)) (by rw [pSum]; omega) ?_
        refine v_ist1 dX3_countOfAll_29 rfl ?_
        refine v_iinc4 dX3_countOfAll_30 rfl ?_
        refine v_goto 10 dX3_countOfAll_33 (by decide) ?_
        exact ih (s + 1) _ (by omega)
  exact lp10 8 0 _ rfl
set_option maxRecDepth 100000 in
set_option maxHeartbeats 400000 in
theorem c_X3_sumOf {l : Launch} {G : vGG} {M : Mem} {i : Nat} (hs : SH i = some (.inr (0, 8))) {z : Nat → Int} (hz : ∀ s, s < 8 → M.1 i s = z s) : Cv l yX3_sumOf cX3_sumOf 6 (some .int) (rmo 0 0) G [aR (some i)] M (some (aI (zSum z 8))) M := by
  refine Co.ofV (plainFor_of_name (by decide)) rfl rfl ?_
  intro x hxl hxR hlk hrt Q hQ
  show vO x Q G cX3_sumOf RX3 0 [some (aR (some i)), none, none, none, none, none] [] M
  refine v_iconst dX3_sumOf_0 ?_
  refine v_ist1 dX3_sumOf_1 rfl ?_
  refine v_aload_n 0 dX3_sumOf_2 rfl rfl ?_
  refine v_ast2 dX3_sumOf_3 rfl ?_
  refine v_aload_n 2 dX3_sumOf_4 rfl rfl ?_
  refine v_alen (by decide) hs dX3_sumOf_5 ?_
  refine v_ist3 dX3_sumOf_6 rfl ?_
  refine v_iconst dX3_sumOf_7 ?_
  refine v_ist4 dX3_sumOf_8 rfl ?_
  have lp10 : ∀ (dd s : Nat) (c5 : Option AV), s + dd = 8 → vO x Q G cX3_sumOf RX3 10 [some (aR (some i)), some (aI (zSum z s)), some (aR (some i)), some (aI 8), some (aI (s : Int)), c5] [] M := by
    intro dd
    induction dd with
    | zero =>
      intro s c5 hd
      obtain rfl : s = 8 := by omega
      refine v_iload dX3_sumOf_10 rfl ?_
      refine v_iload_n 3 dX3_sumOf_12 rfl rfl ?_
      refine v_icmp_ge 33 dX3_sumOf_13 (by decide) (by omega) (by decide) (fun h13 => ?_) (fun h13 => ?_)
      · skip
        refine v_iload_n 1 dX3_sumOf_33 rfl rfl ?_
        refine o_iret hQ hlk hrt dX3_sumOf_34 ?_
        exact ⟨rfl, rfl⟩
      · skip
        exact absurd h13 (by omega)
    | succ dd ih =>
      intro s c5 hd
      refine v_iload dX3_sumOf_10 rfl ?_
      refine v_iload_n 3 dX3_sumOf_12 rfl rfl ?_
      refine v_icmp_ge 33 dX3_sumOf_13 (by decide) (by omega) (by decide) (fun h13 => ?_) (fun h13 => ?_)
      · skip
        exact absurd h13 (by omega)
      · skip
        refine v_aload_n 2 dX3_sumOf_16 rfl rfl ?_
        refine v_iload dX3_sumOf_17 rfl ?_
        refine o_iald (j := s) (u := (z s)) hs (by omega) (by omega) (hz s (by omega)) dX3_sumOf_19 ?_
        refine v_ist5 dX3_sumOf_20 rfl ?_
        refine v_iload_n 1 dX3_sumOf_22 rfl rfl ?_
        refine v_iload dX3_sumOf_23 rfl ?_
        refine v_iadd dX3_sumOf_25 ?_
        refine v_ist1 dX3_sumOf_26 rfl ?_
        refine v_iinc4 dX3_sumOf_27 rfl ?_
        refine v_goto 10 dX3_sumOf_30 (by decide) ?_
        exact ih (s + 1) _ (by omega)
  exact lp10 8 0 _ rfl
set_option maxRecDepth 100000 in
set_option maxHeartbeats 400000 in
theorem c_X3_readWind {l : Launch} {G : vGG} {M : Mem} {v : Sg} (hLX : LayX M.2) (hX : XS 1 v M.1) (hI : sInv v) : Co l yX3_readWind cX3_readWind 1 none (rmo 5 117) G [aR (some 0)] M (fun r M' => r = none ∧ fz 26 33 1 0 M M' ∧ WL 26 v (sDrw v) true M'.1) := by
  refine Co.ofV (plainFor_of_name (by decide)) rfl rfl ?_
  intro x hxl hxR hlk hrt Q hQ
  show vO x Q G cX3_readWind RX3 0 [some (aR (some 0))] [] M
  refine v_aload_n 0 dX3_readWind_0 rfl rfl ?_
  refine v_getR lk_X3_40 rfl (rfl : SH 0 = _) (ow_6 hLX) dX3_readWind_1 ?_
  refine v_aload_n 0 dX3_readWind_4 rfl rfl ?_
  refine v_getR lk_X3_10 rfl (rfl : SH 0 = _) (ow_0 hLX) dX3_readWind_5 ?_
  refine v_aload_n 0 dX3_readWind_8 rfl rfl ?_
  refine v_getR lk_X3_10 rfl (rfl : SH 0 = _) (ow_0 hLX) dX3_readWind_9 ?_
  refine o_getI (u := ((sDrw v : Nat) : Int)) lk_X3_80 rfl (st_o stB_1) (xs_drw hX) dX3_readWind_12 ?_
  refine v_iconst dX3_readWind_15 ?_
  refine oVm3 2 (c_X2_listen (pr := true) stB_1 hLX hX hI wiB_26 (sDrw_lt hI)) k0_X2_listen ki_X2_listen ml_X3_271 (wi_o wiB_26) (by decide) (vRo_of hxR (by decide) (by decide)) dX3_readWind_16 (Nat.le_of_ble_eq_true rfl) (fun N hN => ?_)
  refine o_ret hQ hlk hrt dX3_readWind_19 ?_
  exact ⟨rfl, hN⟩
set_option maxRecDepth 100000 in
set_option maxHeartbeats 400000 in
theorem c_X3_isHeard {l : Launch} {G : vGG} {M : Mem} {v : Sg} (hLX : LayX M.2) (hX : XS 1 v M.1) (hI : sInv v) {st : Nat} (hst : st < 256) : Co l yX3_isHeard cX3_isHeard 2 (some .boolean) (rmo 5 117) G [aR (some 0), aI (st : Int)] M (fun r M' => r = some (aI (bP (0 < sSp v st false 192))) ∧ fz 33 40 1 0 M M') := by
  refine Co.ofV (plainFor_of_name (by decide)) rfl rfl ?_
  intro x hxl hxR hlk hrt Q hQ
  show vO x Q G cX3_isHeard RX3 0 [some (aR (some 0)), some (aI (st : Int))] [] M
  refine v_aload_n 0 dX3_isHeard_0 rfl rfl ?_
  refine v_getR lk_X3_44 rfl (rfl : SH 0 = _) (ow_7 hLX) dX3_isHeard_1 ?_
  refine v_aload_n 0 dX3_isHeard_4 rfl rfl ?_
  refine v_getR lk_X3_10 rfl (rfl : SH 0 = _) (ow_0 hLX) dX3_isHeard_5 ?_
  refine v_iload_n 1 dX3_isHeard_8 rfl rfl ?_
  refine v_iconst dX3_isHeard_9 ?_
  refine oVm3 2 (c_X2_listen (pr := false) stB_1 hLX hX hI wiB_33 hst) k0_X2_listen ki_X2_listen ml_X3_271 (wi_o wiB_33) (by decide) (vRo_of hxR (by decide) (by decide)) dX3_isHeard_10 (Nat.le_of_ble_eq_true rfl) (fun N hN => ?_)
  obtain ⟨hF, hW⟩ := hN
  have hLN := fz_layX hF hLX
  refine v_aload_n 0 dX3_isHeard_13 rfl rfl ?_
  refine v_getR lk_X3_44 rfl (rfl : SH 0 = _) (ow_7 hLN) dX3_isHeard_14 ?_
  refine v_getR lk_X3_196 rfl (wi_o wiB_33) (hLN.2.1 33 wiB_33 5 (by decide)) dX3_isHeard_17 ?_
  refine oSv1 (c_X3_countOfAll (i := 33 + 1 + 5) (z := fun s => sSk v st false s 24) (wi_a5 wiB_33) (fun s hs => ⟨hW.2.2.2 s hs, sSk_lt v st false s 24 (Nat.le_refl _)⟩)) k0_X3_countOfAll ki_X3_countOfAll ml_X3_106 (vRo_of hxR (by decide) (by decide)) dX3_isHeard_20 (Nat.le_of_ble_eq_true rfl) ?_
  have hpl := pSum_le (fun s => sSk v st false s 24) 8
  rw [← sSp_sum v st false 8, show 24 * 8 = 192 from rfl] at hpl ⊢
  refine v_if_le 30 dX3_isHeard_23 (by decide) (by omega) (fun h23 => ?_) (fun h23 => ?_)
  · skip
    refine v_iconst dX3_isHeard_30 ?_
    refine o_zret hQ hlk hrt (by decide) dX3_isHeard_31 ?_
    first | exact ⟨by rw [bP_f (show ¬ 0 < sSp v st false 192 by omega)], hF⟩ | exact ⟨by rw [bP_t (show 0 < sSp v st false 192 by omega)], hF⟩
  · skip
    refine v_iconst dX3_isHeard_26 ?_
    refine v_goto 31 dX3_isHeard_27 (by decide) ?_
    refine o_zret hQ hlk hrt (by decide) dX3_isHeard_31 ?_
    first | exact ⟨by rw [bP_f (show ¬ 0 < sSp v st false 192 by omega)], hF⟩ | exact ⟨by rw [bP_t (show 0 < sSp v st false 192 by omega)], hF⟩
set_option maxRecDepth 100000 in
set_option maxHeartbeats 400000 in
theorem c_X3_detuning {l : Launch} {G : vGG} {M : Mem} {v : Sg} (hLX : LayX M.2) (hX : XS 1 v M.1) (hI : sInv v) (hW : WL 26 v (sDrw v) true M.1) {s : Nat} (hs : s < 8) : Cv l yX3_detuning cX3_detuning 3 (some .int) (rmo 2 43) G [aR (some 0), aI (s : Int)] M (some (aI (sBend v (sDrw v) true s))) M := by
  refine Co.ofV (plainFor_of_name (by decide)) rfl rfl ?_
  intro x hxl hxR hlk hrt Q hQ
  have hmn := sMan_lt hI hs
  show vO x Q G cX3_detuning RX3 0 [some (aR (some 0)), some (aI (s : Int)), none] [] M
  refine v_aload_n 0 dX3_detuning_0 rfl rfl ?_
  refine v_getR lk_X3_40 rfl (rfl : SH 0 = _) (ow_6 hLX) dX3_detuning_1 ?_
  refine v_getR lk_X3_205 rfl (wi_o wiB_26) (hLX.2.1 26 wiB_26 2 (by decide)) dX3_detuning_4 ?_
  refine v_aload_n 0 dX3_detuning_7 rfl rfl ?_
  refine v_getR lk_X3_10 rfl (rfl : SH 0 = _) (ow_0 hLX) dX3_detuning_8 ?_
  refine v_iload_n 1 dX3_detuning_11 rfl rfl ?_
  refine oVv1 0 (c_X0_manualOf stB_1 hLX hX hI hs) k0_X0_manualOf ki_X0_manualOf ml_X3_237 (st_o stB_1) (by decide) (vRo_of hxR (by decide) (by decide)) dX3_detuning_12 (Nat.le_of_ble_eq_true rfl) ?_
  refine o_iald (j := sMan v s) (u := (sPr v (sDrw v) true (sMan v s))) (wi_a2 wiB_26) (by omega) (by omega) (hW.2.1 _ (by omega)) dX3_detuning_15 ?_
  refine v_aload_n 0 dX3_detuning_16 rfl rfl ?_
  refine v_getR lk_X3_10 rfl (rfl : SH 0 = _) (ow_0 hLX) dX3_detuning_17 ?_
  refine v_getR lk_X3_97 rfl (st_o stB_1) (hLX.1 1 stB_1 6 (by decide)) dX3_detuning_20 ?_
  refine v_iconst dX3_detuning_23 ?_
  refine o_iald (j := 0) (u := (v 1)) (st_a6 stB_1) (by omega) (by omega) (xs_set hX (k := 0) (by decide)) dX3_detuning_24 ?_
  refine v_isub dX3_detuning_25 ?_
  refine v_ist2 dX3_detuning_26 rfl ?_
  refine v_iload_n 2 dX3_detuning_27 rfl rfl ?_
  refine v_aload_n 0 dX3_detuning_28 rfl rfl ?_
  refine v_getR lk_X3_10 rfl (rfl : SH 0 = _) (ow_0 hLX) dX3_detuning_29 ?_
  refine v_getR lk_X3_97 rfl (st_o stB_1) (hLX.1 1 stB_1 6 (by decide)) dX3_detuning_32 ?_
  refine v_bipush dX3_detuning_35 (by decide) ?_
  refine o_iald (j := 8) (u := (v 9)) (st_a6 stB_1) (by omega) (by omega) (xs_set hX (k := 8) (by decide)) dX3_detuning_37 ?_
  refine v_imul dX3_detuning_38 ?_
  refine v_bipush dX3_detuning_39 (by decide) ?_
  refine oSv2 (c_X3_divide (bn_R hI hs) (by decide)) k0_X3_divide ki_X3_divide ml_X3_316 (vRo_of hxR (by decide) (by decide)) dX3_detuning_41 (Nat.le_of_ble_eq_true rfl) ?_
  refine o_iret hQ hlk hrt dX3_detuning_44 ?_
  exact ⟨rfl, rfl⟩
set_option maxRecDepth 100000 in
set_option maxHeartbeats 400000 in
theorem c_X3_pitch {l : Launch} {G : vGG} {M : Mem} {v : Sg} (hLX : LayX M.2) (hX : XS 1 v M.1) (hI : sInv v) (hW : WL 26 v (sDrw v) true M.1) {s k : Nat} (hs : s < 8) (hk : k < 24) : Cv l yX3_pitch cX3_pitch 3 (some .int) (rmo 3 65) G [aR (some 0), aI (s : Int), aI (k : Int)] M (some (aI (sPitch v (sDrw v) true s k))) M := by
  refine Co.ofV (plainFor_of_name (by decide)) rfl rfl ?_
  intro x hxl hxR hlk hrt Q hQ
  show vO x Q G cX3_pitch RX3 0 [some (aR (some 0)), some (aI (s : Int)), some (aI (k : Int))] [] M
  refine v_aload_n 0 dX3_pitch_0 rfl rfl ?_
  refine v_getR lk_X3_10 rfl (rfl : SH 0 = _) (ow_0 hLX) dX3_pitch_1 ?_
  refine v_getR lk_X3_73 rfl (st_o stB_1) (hLX.1 1 stB_1 5 (by decide)) dX3_pitch_4 ?_
  refine v_iload_n 1 dX3_pitch_7 rfl rfl ?_
  refine v_iload_n 2 dX3_pitch_8 rfl rfl ?_
  refine oSv2 (c_X3_pipeIndex) k0_X3_pipeIndex ki_X3_pipeIndex ml_X3_76 (vRo_of hxR (by decide) (by decide)) dX3_pitch_9 (Nat.le_of_ble_eq_true rfl) ?_
  refine o_iald (j := 24 * s + k) (u := (v (64 + 24 * s + k))) (st_a5 stB_1) (by omega) (by omega) ((xs_off hX (p := 24 * s + k) (by omega)).trans (by rw [Nat.add_assoc])) dX3_pitch_12 ?_
  refine v_aload_n 0 dX3_pitch_13 rfl rfl ?_
  refine v_iload_n 1 dX3_pitch_14 rfl rfl ?_
  refine oVv1 3 (c_X3_detuning hLX hX hI hW hs) k0_X3_detuning ki_X3_detuning ml_X3_240 (rfl : SH 0 = _) (by decide) (vRo_of hxR (by decide) (by decide)) dX3_pitch_15 (Nat.le_of_ble_eq_true rfl) ?_
  refine v_iadd dX3_pitch_18 ?_
  refine o_iret hQ hlk hrt dX3_pitch_19 ?_
  exact ⟨rfl, rfl⟩
