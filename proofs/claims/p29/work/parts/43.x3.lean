/-! ===== the class: pressures, what is asked, what flows ===== -/
def sAsk (v : Sg) (st : Nat) (pr : Bool) (s k : Nat) : Int := sNeed v s k * sPr v st pr (sMan v s) / v 1
theorem sAsk_b {v : Sg} (h : sInv v) (st : Nat) (pr : Bool) {s k : Nat} (hs : s < 8) (hk : k < 24) : (0 ≤ sNeed v s k * sPr v st pr (sMan v s) ∧ sNeed v s k * sPr v st pr (sMan v s) ≤ 9000) ∧ 0 ≤ sAsk v st pr s k ∧ sAsk v st pr s k ≤ 45 := by
  have h1 := sNeed_b h hs hk
  have h2 := sPr_b h st pr (sMan_lt h hs).1
  have h3 := iv_set h
  have h5 : sNeed v s k * sPr v st pr (sMan v s) ≤ sNeed v s k * v 1 := Int.mul_le_mul_of_nonneg_left (by omega) (by omega)
  have h6 : sNeed v s k * v 1 ≤ 45 * v 1 := Int.mul_le_mul_of_nonneg_right (by omega) (by omega)
  have h4 := Int.ediv_le_ediv (show 0 < v 1 by omega) h5
  rw [Int.mul_ediv_cancel _ (by omega)] at h4
  exact ⟨⟨Int.mul_nonneg (by omega) (by omega), by omega⟩, Int.ediv_nonneg (Int.mul_nonneg (by omega) (by omega)) (by omega), by unfold sAsk; omega⟩
theorem sAs_o {v : Sg} {st : Nat} {pr : Bool} {s k : Nat} (hk : k < 24) (h : (sOpn v st pr s).testBit k = true) : sAs v st pr (24 * s + k) = sAsk v st pr s k := by
  rw [sAs_at _ _ _ _ hk, sAk, if_pos h, sAsk]
theorem sAs_c {v : Sg} {st : Nat} {pr : Bool} {s k : Nat} (hk : k < 24) (h : ¬ (sOpn v st pr s).testBit k = true) : sAs v st pr (24 * s + k) = 0 := by
  rw [sAs_at _ _ _ _ hk, sAk, if_neg h]
def sSq (v : Sg) (st : Nat) (pr : Bool) (s : Nat) : Nat → Int
  | 0 => 0
  | k + 1 => sSq v st pr s k + sAs v st pr (24 * s + k)
theorem sSq_b {v : Sg} (h : sInv v) (st : Nat) (pr : Bool) {s : Nat} (hs : s < 8) : ∀ k, k ≤ 24 → 0 ≤ sSq v st pr s k ∧ sSq v st pr s k ≤ 45 * k
  | 0, _ => ⟨Int.le_refl _, Int.le_refl _⟩
  | k + 1, hk => by
    have h1 := sSq_b h st pr hs k (by omega)
    have h2 := sAs_b h st pr (p := 24 * s + k) (by omega)
    rw [sSq]
    omega
theorem sLf_q {v : Sg} (h : sInv v) (st : Nat) (pr : Bool) {s : Nat} (hs : s < 8) : ∀ k, k ≤ 24 → sLf v st pr (24 * s + k) = max 0 (sLf v st pr (24 * s) - sSq v st pr s k)
  | 0, _ => by
    have := sLf_b h st pr (24 * s) (by omega)
    rw [Nat.add_zero, sSq]
    omega
  | k + 1, hk => by
    have h1 := sLf_q h st pr hs k (by omega)
    have h2 := sAs_b h st pr (p := 24 * s + k) (by omega)
    rw [← Nat.add_assoc, sLf, h1, sSq]
    omega
theorem sLf_24 {v : Sg} (h : sInv v) (st : Nat) (pr : Bool) {s : Nat} (hs : s < 8) : min (sSq v st pr s 24) (sLf v st pr (24 * s)) = sLf v st pr (24 * s) - sLf v st pr (24 * (s + 1)) := by
  have h1 := sLf_q h st pr hs 24 (Nat.le_refl _)
  have h2 := sLf_b h st pr (24 * s) (by omega)
  have h3 := sSq_b h st pr hs 24 (Nat.le_refl _)
  rw [show 24 * (s + 1) = 24 * s + 24 by omega, h1]
  omega
theorem xp_R {v : Sg} (h : sInv v) (st : Nat) (pr : Bool) {m : Nat} (hm : m < 2) : 0 ≤ sNs v st pr m 192 * v (2 + m) ∧ sNs v st pr m 192 * v (2 + m) ≤ 864000 := by
  have h1 := sNs_b h st pr m 192 (Nat.le_refl _)
  have h2 := iv_los h hm
  refine ⟨Int.mul_nonneg h1.1 h2.1, ?_⟩
  have h3 : sNs v st pr m 192 * v (2 + m) ≤ sNs v st pr m 192 * 100 := Int.mul_le_mul_of_nonneg_left h2.2 h1.1
  omega
set_option maxRecDepth 100000 in
set_option maxHeartbeats 400000 in
theorem c_X2_asks {l : Launch} {G : vGG} {M : Mem} {v : Sg} {b : Nat} (hb : stB b) (hLX : LayX M.2) (hX : XS b v M.1) (hI : sInv v) {w : Nat} (hw : wiB w) {st : Nat} {pr : Bool} (hP : WP w v st pr M.1) {s k : Nat} (hs : s < 8) (hk : k < 24) : Cv l yX2_asks cX2_asks 5 (some .int) (rmo 2 43) G [aR (some w), aR (some b), aI (s : Int), aI (k : Int)] M (some (aI (sAsk v st pr s k))) M := by
  refine Co.ofV (plainFor_of_name (by decide)) rfl rfl ?_
  intro x hxl hxR hlk hrt Q hQ
  have hmn := sMan_lt hI hs
  have hab := sAsk_b hI st pr hs hk
  have hse := iv_set hI
  show vO x Q G cX2_asks RX2 0 [some (aR (some w)), some (aR (some b)), some (aI (s : Int)), some (aI (k : Int)), none] [] M
  refine v_aload_n 1 dX2_asks_0 rfl rfl ?_
  refine v_iload_n 2 dX2_asks_1 rfl rfl ?_
  refine v_iload_n 3 dX2_asks_2 rfl rfl ?_
  refine oVv2 0 (c_X0_need hb hLX hX hI hs hk) k0_X0_need ki_X0_need ml_X2_78 (st_o hb) (by decide) (vRo_of hxR (by decide) (by decide)) dX2_asks_3 (Nat.le_of_ble_eq_true rfl) ?_
  refine v_aload_n 0 dX2_asks_6 rfl rfl ?_
  refine v_getR lk_X2_18 rfl (wi_o hw) (hLX.2.1 w hw 2 (by decide)) dX2_asks_7 ?_
  refine v_aload_n 1 dX2_asks_10 rfl rfl ?_
  refine v_iload_n 2 dX2_asks_11 rfl rfl ?_
  refine oVv1 0 (c_X0_manualOf hb hLX hX hI hs) k0_X0_manualOf ki_X0_manualOf ml_X2_44 (st_o hb) (by decide) (vRo_of hxR (by decide) (by decide)) dX2_asks_12 (Nat.le_of_ble_eq_true rfl) ?_
  refine o_iald (j := sMan v s) (u := (sPr v st pr (sMan v s))) (wi_a2 hw) (by omega) (by omega) (hP _ hmn.1) dX2_asks_15 ?_
  refine v_imul dX2_asks_16 ?_
  refine v_ist4 dX2_asks_17 rfl ?_
  refine v_iload dX2_asks_19 rfl ?_
  refine v_aload_n 1 dX2_asks_21 rfl rfl ?_
  refine v_getR lk_X2_85 rfl (st_o hb) (hLX.1 b hb 6 (by decide)) dX2_asks_22 ?_
  refine v_iconst dX2_asks_25 ?_
  refine o_iald (j := 0) (u := (v 1)) (st_a6 hb) (by omega) (by omega) (xs_set hX (k := 0) (by decide)) dX2_asks_26 ?_
  refine oSNv2 (c_X3_divide (by omega) (by omega)) k0_X3_divide ki_X3_divide ml_X2_88 (vRo_of hxR (by decide) (by decide)) dX2_asks_27 (Nat.le_of_ble_eq_true rfl) ?_
  refine o_iret hQ hlk hrt dX2_asks_30 ?_
  exact ⟨rfl, rfl⟩
set_option maxRecDepth 100000 in
set_option maxHeartbeats 400000 in
theorem c_X2_setPressures {l : Launch} {G : vGG} {M : Mem} {v : Sg} {b : Nat} (hb : stB b) (hLX : LayX M.2) (hX : XS b v M.1) (hI : sInv v) {w : Nat} (hw : wiB w) {st : Nat} {pr : Bool} (hO : WO w v st pr M.1) : Co l yX2_setPressures cX2_setPressures 5 none (rmo 3 63) G [aR (some w), aR (some b)] M (fun r M' => r = none ∧ fz w (w + 7) 1 0 M M' ∧ WO w v st pr M'.1 ∧ WP w v st pr M'.1) := by
  refine Co.ofV (plainFor_of_name (by decide)) rfl rfl ?_
  intro x hxl hxR hlk hrt Q hQ
  have hbl := stB_lt hb
  have hwl := wiB_lt hw
  have hbw := bw_d hb hw
  have hrb := sRes_b hI
  have hse := iv_set hI
  show vO x Q G cX2_setPressures RX2 0 [some (aR (some w)), some (aR (some b)), none, none, none] [] M
  refine v_aload_n 1 dX2_setPressures_0 rfl rfl ?_
  refine oVv0 0 (c_X0_reservoirPressure hb hLX hX hI) k0_X0_reservoirPressure ki_X0_reservoirPressure ml_X2_81 (st_o hb) (by decide) (vRo_of hxR (by decide) (by decide)) dX2_setPressures_1 (Nat.le_of_ble_eq_true rfl) ?_
  refine v_ist2 dX2_setPressures_4 rfl ?_
  refine v_iconst dX2_setPressures_5 ?_
  refine v_ist3 dX2_setPressures_6 rfl ?_
  have lp7 : ∀ (dd k : Nat) (K : Mem) (c4 : Option AV), k + dd = 2 → fz w (w + 7) 1 0 M K → WO w v st pr K.1 → (∀ m, m < k → K.1 (w + 1 + 2) m = sPr v st pr m) → vO x Q G cX2_setPressures RX2 7 [some (aR (some w)), some (aR (some b)), some (aI (sRes v)), some (aI (k : Int)), c4] [] K := by
    intro dd
    induction dd with
    | zero =>
      intro k K c4 hd hF hO hz
      obtain rfl : k = 2 := by omega
      have hLK := fz_layX hF hLX
      have hXK := hX.keep (fun i h1 h2 => hF.2 i (by omega) (by omega))
      refine v_iload_n 3 dX2_setPressures_7 rfl rfl ?_
      refine v_iconst dX2_setPressures_8 ?_
      refine v_icmp_ge 54 dX2_setPressures_9 (by decide) (by omega) (by decide) (fun h9 => ?_) (fun h9 => ?_)
      · skip
        refine o_ret hQ hlk hrt dX2_setPressures_54 ?_
        exact ⟨rfl, hF, hO, fun m hm => hz m hm⟩
      · skip
        exact absurd h9 (by omega)
    | succ dd ih =>
      intro k K c4 hd hF hO hz
      have hLK := fz_layX hF hLX
      have hXK := hX.keep (fun i h1 h2 => hF.2 i (by omega) (by omega))
      have hxp := xp_R hI st pr (show k < 2 by omega)
      have hnb := sNs_b hI st pr k 192 (Nat.le_refl _)
      refine v_iload_n 3 dX2_setPressures_7 rfl rfl ?_
      refine v_iconst dX2_setPressures_8 ?_
      refine v_icmp_ge 54 dX2_setPressures_9 (by decide) (by omega) (by decide) (fun h9 => ?_) (fun h9 => ?_)
      · skip
        exact absurd h9 (by omega)
      · skip
        refine v_aload_n 0 dX2_setPressures_12 rfl rfl ?_
        refine v_getR lk_X2_15 rfl (wi_o hw) (hLK.2.1 w hw 1 (by decide)) dX2_setPressures_13 ?_
        refine v_iload_n 3 dX2_setPressures_16 rfl rfl ?_
        refine o_iald (j := k) (u := (sNs v st pr (k) 192)) (wi_a1 hw) (by omega) (by omega) (hO.2 _ (by omega)) dX2_setPressures_17 ?_
        refine v_aload_n 1 dX2_setPressures_18 rfl rfl ?_
        refine v_getR lk_X2_85 rfl (st_o hb) (hLK.1 b hb 6 (by decide)) dX2_setPressures_19 ?_
        refine v_iconst dX2_setPressures_22 ?_
        refine v_iload_n 3 dX2_setPressures_23 rfl rfl ?_
        refine v_iadd dX2_setPressures_24 ?_
        refine o_iald (j := 1 + k) (u := (v (2 + k))) (st_a6 hb) (by omega) (by omega) ((xs_set hXK (k := 1 + k) (by omega)).trans (by rw [← Nat.add_assoc])) dX2_setPressures_25 ?_
        refine v_imul dX2_setPressures_26 ?_
        refine v_bipush dX2_setPressures_27 (by decide) ?_
        refine oSNv2 (c_X3_divide (by omega) (by decide)) k0_X3_divide ki_X3_divide ml_X2_88 (vRo_of hxR (by decide) (by decide)) dX2_setPressures_29 (Nat.le_of_ble_eq_true rfl) ?_
        refine v_ist4 dX2_setPressures_32 rfl ?_
        refine v_aload_n 0 dX2_setPressures_34 rfl rfl ?_
        refine v_getR lk_X2_18 rfl (wi_o hw) (hLK.2.1 w hw 2 (by decide)) dX2_setPressures_35 ?_
        refine v_iload_n 3 dX2_setPressures_38 rfl rfl ?_
        refine v_iconst dX2_setPressures_39 ?_
        refine v_iload_n 2 dX2_setPressures_40 rfl rfl ?_
        refine v_iload dX2_setPressures_41 rfl ?_
        refine v_isub dX2_setPressures_43 ?_
        refine oSv2 (c_J9_max (by decide) (by omega)) k0_J9_max ki_J9_max ml_X2_91 (vRo_of hxR (by decide) (by decide)) dX2_setPressures_44 (Nat.le_of_ble_eq_true rfl) ?_
        refine o_iast (j := k) (by omega) (wi_a2 hw) (by omega) (by omega) dX2_setPressures_47 ?_
        refine o_wz hF (by omega) (fun K hF ei ej => ?_)
        have hLK := fz_layX hF hLX
        have hXK := hX.keep (fun i h1 h2 => hF.2 i (by omega) (by omega))
        refine v_iinc3 dX2_setPressures_48 rfl ?_
        refine v_goto 7 dX2_setPressures_51 (by decide) ?_
        exact ih (k + 1) K _ (by omega) hF ⟨fun s hs => by rw [ei _ (by omega)]; exact hO.1 s hs, fun m hm => by rw [ei _ (by omega)]; exact hO.2 m hm⟩ (fun m h => by rw [ej m]; by_cases e : m = k; rw [if_pos e, e, sPr]; rw [if_neg e]; exact hz m (by omega))
  exact lp7 2 0 M _ rfl fz_rf hO (fun m h => absurd h (by omega))
set_option maxRecDepth 100000 in
set_option maxHeartbeats 400000 in
theorem c_X2_addUpAsked {l : Launch} {G : vGG} {M : Mem} {v : Sg} {b : Nat} (hb : stB b) (hLX : LayX M.2) (hX : XS b v M.1) (hI : sInv v) {w : Nat} (hw : wiB w) {st : Nat} {pr : Bool} (hO : WO w v st pr M.1) (hP : WP w v st pr M.1) : Co l yX2_addUpAsked cX2_addUpAsked 4 none (rmo 3 67) G [aR (some w), aR (some b)] M (fun r M' => r = none ∧ fz w (w + 7) 1 0 M M' ∧ WO w v st pr M'.1 ∧ ∀ s, s < 8 → M'.1 (w + 1 + 3) s = sSq v st pr s 24) := by
  refine Co.ofV (plainFor_of_name (by decide)) rfl rfl ?_
  intro x hxl hxR hlk hrt Q hQ
  have hbl := stB_lt hb
  have hwl := wiB_lt hw
  have hbw := bw_d hb hw
  show vO x Q G cX2_addUpAsked RX2 0 [some (aR (some w)), some (aR (some b)), none, none] [] M
  refine v_iconst dX2_addUpAsked_0 ?_
  refine v_ist2 dX2_addUpAsked_1 rfl ?_
  have lp2 : ∀ (dd s : Nat) (K : Mem) (c3 : Option AV), s + dd = 8 → fz w (w + 7) 1 0 M K → WO w v st pr K.1 → WP w v st pr K.1 → (∀ t, t < s → K.1 (w + 1 + 3) t = sSq v st pr t 24) → vO x Q G cX2_addUpAsked RX2 2 [some (aR (some w)), some (aR (some b)), some (aI (s : Int)), c3] [] K := by
    intro dd
    induction dd with
    | zero =>
      intro s K c3 hd hF hKO hKP hz
      obtain rfl : s = 8 := by omega
      have hLK := fz_layX hF hLX
      have hXK := hX.keep (fun i h1 h2 => hF.2 i (by omega) (by omega))
      refine v_iload_n 2 dX2_addUpAsked_2 rfl rfl ?_
      refine v_bipush dX2_addUpAsked_3 (by decide) ?_
      refine v_icmp_ge 64 dX2_addUpAsked_5 (by decide) (by omega) (by decide) (fun h5 => ?_) (fun h5 => ?_)
      · skip
        refine o_ret hQ hlk hrt dX2_addUpAsked_64 ?_
        exact ⟨rfl, hF, hKO, fun t ht => hz t ht⟩
      · skip
        exact absurd h5 (by omega)
    | succ dd ih =>
      intro s K c3 hd hF hKO hKP hz
      have hLK := fz_layX hF hLX
      have hXK := hX.keep (fun i h1 h2 => hF.2 i (by omega) (by omega))
      refine v_iload_n 2 dX2_addUpAsked_2 rfl rfl ?_
      refine v_bipush dX2_addUpAsked_3 (by decide) ?_
      refine v_icmp_ge 64 dX2_addUpAsked_5 (by decide) (by omega) (by decide) (fun h5 => ?_) (fun h5 => ?_)
      · skip
        exact absurd h5 (by omega)
      · skip
        refine v_aload_n 0 dX2_addUpAsked_8 rfl rfl ?_
        refine v_getR lk_X2_21 rfl (wi_o hw) (hLK.2.1 w hw 3 (by decide)) dX2_addUpAsked_9 ?_
        refine v_iload_n 2 dX2_addUpAsked_12 rfl rfl ?_
        refine v_iconst dX2_addUpAsked_13 ?_
        refine o_iast (j := s) (by omega) (wi_a3 hw) (by omega) (by omega) dX2_addUpAsked_14 ?_
        refine o_wz hF (by omega) (fun K hF ei ej => ?_)
        have hLK := fz_layX hF hLX
        have hXK := hX.keep (fun i h1 h2 => hF.2 i (by omega) (by omega))
        have hKO : WO w v st pr K.1 := ⟨fun s hs => by rw [ei _ (by omega)]; exact hKO.1 s hs, fun m hm => by rw [ei _ (by omega)]; exact hKO.2 m hm⟩
        have hKP : WP w v st pr K.1 := fun m hm => by rw [ei _ (by omega)]; exact hKP m hm
        have hz : ∀ t, t < s → K.1 (w + 1 + 3) t = sSq v st pr t 24 := fun t h => by rw [ej t, if_neg (by omega)]; exact hz t h
        refine v_iconst dX2_addUpAsked_15 ?_
        refine v_ist3 dX2_addUpAsked_16 rfl ?_
        have lp17 : ∀ (dd2 k : Nat) (K : Mem), k + dd2 = 24 → fz w (w + 7) 1 0 M K → WO w v st pr K.1 → WP w v st pr K.1 → (∀ t, t < s → K.1 (w + 1 + 3) t = sSq v st pr t 24) → K.1 (w + 1 + 3) s = sSq v st pr s k → vO x Q G cX2_addUpAsked RX2 17 [some (aR (some w)), some (aR (some b)), some (aI (s : Int)), some (aI (k : Int))] [] K := by
          intro dd2
          induction dd2 with
          | zero =>
            intro k K hd2 hF hKO hKP hz hq
            obtain rfl : k = 24 := by omega
            have hLK := fz_layX hF hLX
            have hXK := hX.keep (fun i h1 h2 => hF.2 i (by omega) (by omega))
            refine v_iload_n 3 dX2_addUpAsked_17 rfl rfl ?_
            refine v_bipush dX2_addUpAsked_18 (by decide) ?_
            refine v_icmp_ge 58 dX2_addUpAsked_20 (by decide) (by omega) (by decide) (fun h20 => ?_) (fun h20 => ?_)
            · skip
              refine v_iinc2 dX2_addUpAsked_58 rfl ?_
              refine v_goto 2 dX2_addUpAsked_61 (by decide) ?_
              exact ih (s + 1) K _ (by omega) hF hKO hKP (fun t h => by by_cases e : t = s; rw [e]; exact hq; exact hz t (by omega))
            · skip
              exact absurd h20 (by omega)
          | succ dd2 ih2 =>
            intro k K hd2 hF hKO hKP hz hq
            have hLK := fz_layX hF hLX
            have hXK := hX.keep (fun i h1 h2 => hF.2 i (by omega) (by omega))
            refine v_iload_n 3 dX2_addUpAsked_17 rfl rfl ?_
            refine v_bipush dX2_addUpAsked_18 (by decide) ?_
            refine v_icmp_ge 58 dX2_addUpAsked_20 (by decide) (by omega) (by decide) (fun h20 => ?_) (fun h20 => ?_)
            · skip
              exact absurd h20 (by omega)
            · skip
              refine v_aload_n 0 dX2_addUpAsked_23 rfl rfl ?_
              refine v_getR lk_X2_9 rfl (wi_o hw) (hLK.2.1 w hw 0 (by decide)) dX2_addUpAsked_24 ?_
              refine v_iload_n 2 dX2_addUpAsked_27 rfl rfl ?_
              refine o_iald (j := s) (u := ((sOpn v st pr (s) : Nat) : Int)) (wi_a0 hw) (by omega) (by omega) (hKO.1 _ (by omega)) dX2_addUpAsked_28 ?_
              refine v_iload_n 3 dX2_addUpAsked_29 rfl rfl ?_
              have hol := sOpn_lt hI st pr (show s < 8 by omega)
              refine oSNv2 (c_X3_isIn (Int.natCast_nonneg _) (by omega) (by omega)) k0_X3_isIn ki_X3_isIn ml_X2_51 (vRo_of hxR (by decide) (by decide)) dX2_addUpAsked_30 (Nat.le_of_ble_eq_true rfl) ?_
              refine v_if_eq 52 dX2_addUpAsked_33 (by decide) (bP_R _) (fun h33 => ?_) (fun h33 => ?_)
              · skip
                have g33 : ¬ (sOpn v st pr s).testBit k = true := by simpa [bt] using bP_0.mp h33
                refine v_iinc3 dX2_addUpAsked_52 rfl ?_
                refine v_goto 17 dX2_addUpAsked_55 (by decide) ?_
                first | exact ih2 (k + 1) K (by omega) hF hKO hKP hz (by rw [sSq, sAs_c (by omega) g33, Int.add_zero]; exact hq) | exact ih2 (k + 1) K (by omega) hF hKO hKP hz hq2
              · skip
                have g33 : (sOpn v st pr s).testBit k = true := by simpa [bt] using bP_n0.mp h33
                refine v_aload_n 0 dX2_addUpAsked_36 rfl rfl ?_
                refine v_getR lk_X2_21 rfl (wi_o hw) (hLK.2.1 w hw 3 (by decide)) dX2_addUpAsked_37 ?_
                refine v_iload_n 2 dX2_addUpAsked_40 rfl rfl ?_
                refine v_dup2 dX2_addUpAsked_41 rfl rfl ?_
                refine o_iald (j := s) (u := (sSq v st pr s k)) (wi_a3 hw) (by omega) (by omega) hq dX2_addUpAsked_42 ?_
                refine v_aload_n 0 dX2_addUpAsked_43 rfl rfl ?_
                refine v_aload_n 1 dX2_addUpAsked_44 rfl rfl ?_
                refine v_iload_n 2 dX2_addUpAsked_45 rfl rfl ?_
                refine v_iload_n 3 dX2_addUpAsked_46 rfl rfl ?_
                refine oVv3 2 (c_X2_asks hb hLK hXK hI hw hKP (by omega) (by omega)) k0_X2_asks ki_X2_asks ml_X2_55 (wi_o hw) (by decide) (vRo_of hxR (by decide) (by decide)) dX2_addUpAsked_47 (Nat.le_of_ble_eq_true rfl) ?_
                refine v_iadd dX2_addUpAsked_50 ?_
                refine o_iast (j := s) (by omega) (wi_a3 hw) (by omega) (by omega) dX2_addUpAsked_51 ?_
                refine o_wz hF (by omega) (fun K hF ei ej => ?_)
                have hLK := fz_layX hF hLX
                have hXK := hX.keep (fun i h1 h2 => hF.2 i (by omega) (by omega))
                have hKO : WO w v st pr K.1 := ⟨fun s hs => by rw [ei _ (by omega)]; exact hKO.1 s hs, fun m hm => by rw [ei _ (by omega)]; exact hKO.2 m hm⟩
                have hKP : WP w v st pr K.1 := fun m hm => by rw [ei _ (by omega)]; exact hKP m hm
                have hz : ∀ t, t < s → K.1 (w + 1 + 3) t = sSq v st pr t 24 := fun t h => by rw [ej t, if_neg (by omega)]; exact hz t h
                have hq2 : K.1 (w + 1 + 3) s = sSq v st pr s (k + 1) := by rw [ej s, if_pos rfl, sSq, sAs_o (by omega) g33]
                refine v_iinc3 dX2_addUpAsked_52 rfl ?_
                refine v_goto 17 dX2_addUpAsked_55 (by decide) ?_
                first | exact ih2 (k + 1) K (by omega) hF hKO hKP hz (by rw [sSq, sAs_c (by omega) g33, Int.add_zero]; exact hq) | exact ih2 (k + 1) K (by omega) hF hKO hKP hz hq2
        exact lp17 24 0 K rfl hF hKO hKP hz (by rw [ej, if_pos rfl]; rfl)
  exact lp2 8 0 M _ rfl fz_rf hO hP (fun t h => absurd h (by omega))
theorem sFl_at (u : Sg) (s : Nat) : sFl u (24 * s) 0 = sLn u (24 * s) ∧ sFl u (24 * s) 15 = u 15 + (u 0 - sLn u (24 * s)) ∧ (∀ t, t < 8 → sFl u (24 * s) (24 + 5 * t + 4) = u (24 + 5 * t + 4) + (sLn u (24 * min s t) - sLn u (24 * min s (t + 1)))) ∧ ∀ i, i ≠ 0 → i ≠ 15 → ¬ (24 ≤ i ∧ i < 64 ∧ (i - 24) % 5 = 4) → sFl u (24 * s) i = u i := by
  refine ⟨?_, ?_, fun t ht => ?_, fun i h0 h1 h2 => ?_⟩
  · rw [sFl, if_pos rfl]
  · rw [sFl, if_neg (by decide), if_pos rfl]
  · rw [sFl, if_neg (by omega), if_neg (by omega), if_pos (by omega), show (24 + 5 * t + 4 - 24) / 5 = t by omega, ← Nat.mul_min_mul_left, ← Nat.mul_min_mul_left]
  · rw [sFl, if_neg h0, if_neg h1, if_neg h2]
theorem sGo_one {v w : Sg} {s : Nat} {d : Int} (he : ∀ t, t < 8 → t ≠ s → w (24 + 5 * t + 4) = v (24 + 5 * t + 4)) (hs : w (24 + 5 * s + 4) = v (24 + 5 * s + 4) + d) : ∀ n, n ≤ 8 → sGo w n = sGo v n + (if s < n then d else 0)
  | 0, _ => by rw [if_neg (Nat.not_lt_zero s)]; rfl
  | n + 1, hn => by
    have ih := sGo_one he hs n (by omega)
    rw [sGo, sGo, ih]
    by_cases e : n = s
    · subst e
      rw [if_neg (Nat.lt_irrefl n), if_pos (Nat.lt_succ_self n), hs]
      omega
    · rw [he n (by omega) e]
      by_cases h2 : s < n
      · rw [if_pos h2, if_pos (show s < n + 1 by omega)]
        omega
      · rw [if_neg h2, if_neg (show ¬ s < n + 1 by omega)]
        omega
theorem xs_feed {b s : Nat} {u : Sg} {f g : Nat → Nat → Int} {d : Int} (h : XS b (sFl u (24 * s)) f) (hs : s < 8) (hd : d = sLn u (24 * s) - sLn u (24 * (s + 1)))
    (h1 : ∀ i, b < i → i < b + 10 → i ≠ b + 1 + 3 → g i = f i) (h2 : ∀ j, g (b + 1 + 3) j = if j = s then f (b + 1 + 3) s + d else f (b + 1 + 3) j) (h3 : ∀ k, g b k = if k = 12 then f b 12 - d else f b k) : XS b (sFl u (24 * (s + 1))) g := by
  obtain ⟨a0, a15, ag, ae⟩ := sFl_at u s
  obtain ⟨c0, c15, cg, ce⟩ := sFl_at u (s + 1)
  have E : ∀ i, i ≠ 0 → i ≠ 15 → ¬ (24 ≤ i ∧ i < 64 ∧ (i - 24) % 5 = 4) → sFl u (24 * (s + 1)) i = sFl u (24 * s) i := fun i p q r => by rw [ae i p q r, ce i p q r]
  have Gs : sFl u (24 * (s + 1)) (24 + 5 * s + 4) = sFl u (24 * s) (24 + 5 * s + 4) + d := by
    rw [ag s hs, cg s hs, hd, Nat.min_self, Nat.min_eq_left (show s ≤ s + 1 by omega), Nat.min_eq_right (show s ≤ s + 1 by omega), Nat.min_self]
    omega
  have Gt : ∀ t, t < 8 → t ≠ s → sFl u (24 * (s + 1)) (24 + 5 * t + 4) = sFl u (24 * s) (24 + 5 * t + 4) := fun t ht hts => by
    rw [ag t ht, cg t ht]
    by_cases q : t < s
    · rw [Nat.min_eq_right (show t ≤ s by omega), Nat.min_eq_right (show t + 1 ≤ s by omega), Nat.min_eq_right (show t ≤ s + 1 by omega), Nat.min_eq_right (show t + 1 ≤ s + 1 by omega)]
    · rw [Nat.min_eq_left (show s ≤ t by omega), Nat.min_eq_left (show s ≤ t + 1 by omega), Nat.min_eq_left (show s + 1 ≤ t by omega), Nat.min_eq_left (show s + 1 ≤ t + 1 by omega)]
      omega
  have ed : ∀ k, k ≠ 12 → g b k = f b k := fun k hk => by rw [h3 k, if_neg hk]
  refine ⟨fun t ht => ?_, ⟨fun p hp => ?_, fun k hk => ?_, fun m hm => ?_, fun m hm => ?_⟩, ⟨?_, ?_, ?_⟩, ⟨?_, ?_, ?_, ?_, ?_, ?_, ?_, fun q => ?_⟩, ?_⟩
  · rw [h1 (b + 1 + 0) (by omega) (by omega) (by omega), h1 (b + 1 + 1) (by omega) (by omega) (by omega), h1 (b + 1 + 2) (by omega) (by omega) (by omega), h1 (b + 1 + 4) (by omega) (by omega) (by omega), E (24 + 5 * t) (by omega) (by omega) (by omega), E (24 + 5 * t + 1) (by omega) (by omega) (by omega), E (24 + 5 * t + 2) (by omega) (by omega) (by omega), E (256 + t) (by omega) (by omega) (by omega)]
    refine ⟨xs_man h ht, xs_dem h ht, xs_lea h ht, ?_, xs_cip h ht⟩
    rw [h2 t]
    by_cases q : t = s
    · rw [if_pos q, q, Gs, xs_got h hs]
    · rw [if_neg q, Gt t ht q, xs_got h ht]
  · rw [h1 (b + 1 + 5) (by omega) (by omega) (by omega), E (64 + p) (by omega) (by omega) (by omega)]; exact xs_off h hp
  · rw [h1 (b + 1 + 6) (by omega) (by omega) (by omega), E (1 + k) (by omega) (by omega) (by omega)]; exact xs_set h hk
  · rw [h1 (b + 1 + 7) (by omega) (by omega) (by omega), E (11 + m) (by omega) (by omega) (by omega)]; exact xs_pre h hm
  · rw [h1 (b + 1 + 8) (by omega) (by omega) (by omega), E (18 + m) (by omega) (by omega) (by omega)]; exact xs_sb h hm
  · rw [ed 9 (by decide), sDrw_congr (fun t ht => E _ (by omega) (by omega) (by omega))]; exact xs_drw h
  · rw [ed 10 (by decide), E 10 (by decide) (by decide) (by decide)]; exact xs_mc h
  · rw [ed 11 (by decide), E 10 (by decide) (by decide) (by decide)]; exact xs_oc h
  · rw [h3 12, if_pos rfl, xs_vol h, a0, c0, hd]; omega
  · rw [ed 13 (by decide), E 13 (by decide) (by decide) (by decide)]; exact xs_tim h
  · rw [ed 14 (by decide), E 14 (by decide) (by decide) (by decide)]; exact xs_mad h
  · rw [ed 15 (by decide), E 16 (by decide) (by decide) (by decide)]; exact xs_spi h
  · rw [ed 16 (by decide), E 17 (by decide) (by decide) (by decide)]; exact xs_lf h
  · rw [ed 17 (by decide), E 20 (by decide) (by decide) (by decide)]; exact xs_sl h
  · rw [ed 19 (by decide), E 22 (by decide) (by decide) (by decide)]; exact xs_st h
  · rw [E 22 (by decide) (by decide) (by decide)] at q
    rw [ed 18 (by decide), E 23 (by decide) (by decide) (by decide), E 21 (by decide) (by decide) (by decide)]; exact xs_sp h q
  · rw [sGo_one Gt Gs 8 (Nat.le_refl _), if_pos hs, ← xs_sum h, a15, c15, hd]
    omega
set_option maxRecDepth 100000 in
set_option maxHeartbeats 400000 in
theorem c_X2_feedPipes {l : Launch} {G : vGG} {M : Mem} {v : Sg} {b : Nat} (hb : stB b) (hLX : LayX M.2) (hX : XS b v M.1) (hI : sInv v) {w : Nat} (hw : wiB w) (hA : ∀ s, s < 8 → M.1 (w + 1 + 3) s = sSq v (sDrw v) true s 24) : Co l yX2_feedPipes cX2_feedPipes 4 none (rmo 1 21) G [aR (some w), aR (some b)] M (fun r M' => r = none ∧ fz b (b + 10) 1 0 M M' ∧ XS b (sFl v 192) M'.1) := by
  refine Co.ofV (plainFor_of_name (by decide)) rfl rfl ?_
  intro x hxl hxR hlk hrt Q hQ
  have hbl := stB_lt hb
  have hwl := wiB_lt hw
  have hbw := bw_d hb hw
  have hbe := iv_bel hI
  show vO x Q G cX2_feedPipes RX2 0 [some (aR (some w)), some (aR (some b)), none, none] [] M
  refine v_iconst dX2_feedPipes_0 ?_
  refine v_ist2 dX2_feedPipes_1 rfl ?_
  have lp2 : ∀ (dd s : Nat) (K : Mem) (c3 : Option AV), s + dd = 8 → fz b (b + 10) 1 0 M K → XS b (sFl v (24 * s)) K.1 → vO x Q G cX2_feedPipes RX2 2 [some (aR (some w)), some (aR (some b)), some (aI (s : Int)), c3] [] K := by
    intro dd
    induction dd with
    | zero =>
      intro s K c3 hd hF hXK
      obtain rfl : s = 8 := by omega
      have hLK := fz_layX hF hLX
      have hAs : ∀ t, t < 8 → K.1 (w + 1 + 3) t = sSq v (sDrw v) true t 24 := fun t ht => by rw [hF.2 _ (by omega) (by omega)]; exact hA t ht
      refine v_iload_n 2 dX2_feedPipes_2 rfl rfl ?_
      refine v_bipush dX2_feedPipes_3 (by decide) ?_
      refine v_icmp_ge 48 dX2_feedPipes_5 (by decide) (by omega) (by decide) (fun h5 => ?_) (fun h5 => ?_)
      · skip
        refine o_ret hQ hlk hrt dX2_feedPipes_48 ?_
        exact ⟨rfl, hF, hXK⟩
      · skip
        exact absurd h5 (by omega)
    | succ dd ih =>
      intro s K c3 hd hF hXK
      have hLK := fz_layX hF hLX
      have hAs : ∀ t, t < 8 → K.1 (w + 1 + 3) t = sSq v (sDrw v) true t 24 := fun t ht => by rw [hF.2 _ (by omega) (by omega)]; exact hA t ht
      have hlb := sLf_b hI (sDrw v) true (24 * s) (by omega)
      have hqb := sSq_b hI (sDrw v) true (show s < 8 by omega) 24 (Nat.le_refl _)
      have h24 := sLf_24 hI (sDrw v) true (show s < 8 by omega)
      refine v_iload_n 2 dX2_feedPipes_2 rfl rfl ?_
      refine v_bipush dX2_feedPipes_3 (by decide) ?_
      refine v_icmp_ge 48 dX2_feedPipes_5 (by decide) (by omega) (by decide) (fun h5 => ?_) (fun h5 => ?_)
      · skip
        exact absurd h5 (by omega)
      · skip
        refine v_aload_n 0 dX2_feedPipes_8 rfl rfl ?_
        refine v_getR lk_X2_21 rfl (wi_o hw) (hLK.2.1 w hw 3 (by decide)) dX2_feedPipes_9 ?_
        refine v_iload_n 2 dX2_feedPipes_12 rfl rfl ?_
        refine o_iald (j := s) (u := (sSq v (sDrw v) true (s) 24)) (wi_a3 hw) (by omega) (by omega) (hAs _ (by omega)) dX2_feedPipes_13 ?_
        refine v_aload_n 1 dX2_feedPipes_14 rfl rfl ?_
        refine o_getI (u := (sLf v (sDrw v) true (24 * s))) lk_X2_38 rfl (st_o hb) ((xs_vol hXK).trans (sFl_at v s).1) dX2_feedPipes_15 ?_
        refine oSv2 (c_J9_min (by omega) (by omega)) k0_J9_min ki_J9_min ml_X2_59 (vRo_of hxR (by decide) (by decide)) dX2_feedPipes_18 (Nat.le_of_ble_eq_true rfl) ?_
        refine v_ist3 dX2_feedPipes_21 rfl ?_
        refine v_aload_n 1 dX2_feedPipes_22 rfl rfl ?_
        refine v_getR lk_X2_94 rfl (st_o hb) (hLK.1 b hb 3 (by decide)) dX2_feedPipes_23 ?_
        refine v_iload_n 2 dX2_feedPipes_26 rfl rfl ?_
        refine v_dup2 dX2_feedPipes_27 rfl rfl ?_
        refine o_iald (j := s) (u := (sFl v (24 * s) (24 + 5 * s + 4))) (st_a3 hb) (by omega) (by omega) (xs_got hXK (by omega)) dX2_feedPipes_28 ?_
        refine v_iload_n 3 dX2_feedPipes_29 rfl rfl ?_
        refine v_iadd dX2_feedPipes_30 ?_
        refine o_iast (j := s) (by omega) (st_a3 hb) (by omega) (by omega) dX2_feedPipes_31 ?_
        refine v_aload_n 1 dX2_feedPipes_32 rfl rfl ?_
        refine v_dup dX2_feedPipes_33 rfl ?_
        refine o_getI (u := (sLf v (sDrw v) true (24 * s))) lk_X2_38 rfl (st_o hb) (by dsimp only; exact (vup_o (by omega)).trans ((xs_vol hXK).trans (sFl_at v s).1)) dX2_feedPipes_34 ?_
        refine v_iload_n 3 dX2_feedPipes_37 rfl rfl ?_
        refine v_isub dX2_feedPipes_38 ?_
        refine v_putI lp_X2_38 rfl rfl (st_o hb) dX2_feedPipes_39 ?_
        refine v_iinc2 dX2_feedPipes_42 rfl ?_
        refine v_goto 2 dX2_feedPipes_45 (by decide) ?_
        exact ih (s + 1) _ _ (by omega) ⟨hF.1, fun i h1 h2 => by funext k; dsimp only; refine (vup_o (by omega)).trans ((vup_o (by omega)).trans ?_); rw [hF.2 i h1 h2]⟩ (xs_feed hXK (by omega) h24 (fun i h1 h2 h3 => by funext k; exact (vup_o (by omega)).trans (vup_o (by omega))) (fun j => (vup_o (by omega)).trans (by dsimp only; rw [vup_in, xs_got hXK (s := s) (by omega)])) (fun k => by dsimp only; rw [vup_in]; by_cases e : k = 12; rw [if_pos e, if_pos e, xs_vol hXK, (sFl_at v s).1]; rw [if_neg e, if_neg e]; exact vup_o (by omega)))
  exact lp2 8 0 M _ rfl fz_rf (by rw [Nat.mul_zero, sFl_0]; exact hX)
