/-! ===== the class: letters, digits ===== -/
set_option maxRecDepth 100000 in
set_option maxHeartbeats 400000 in
theorem c_X1_letterHere {l : Launch} {G : vGG} {M0 M : Mem} {L : Nat → Int} {t p : Nat} {q a f n : Int} (hL0 : LayX M0.2) (hL : ∀ k, k < t → M0.1 25 k = L k) (ht : M0.1 24 1 = (t : Int)) (hB : pLt L t) (hK : xK M0 M p q a f n) (hp : p ≤ 1000) : Cv l yX1_letterHere cX1_letterHere 1 (some .int) (rmo 1 22) G [aR (some 24)] M (some (aI (tH L t p))) M := by
  refine Co.ofV (plainFor_of_name (by decide)) rfl rfl ?_
  intro x hxl hxR hlk hrt Q hQ
  have hLX : LayX M.2 := by rw [hK.1]; exact hL0
  have ht80 := hB.1
  have h1_ : M.1 24 1 = (t : Int) := (hK.2.2.1 1 (by decide)).trans ht
  have h2_ := hK.2.2.2.1
  have hHb := tH_b hB p
  show vO x Q G cX1_letterHere RX1 0 [some (aR (some 24))] [] M
  refine v_aload_n 0 dX1_letterHere_0 rfl rfl ?_
  refine o_getI (u := (p : Int)) lk_X1_23 rfl (rfl : SH 24 = _) h2_ dX1_letterHere_1 ?_
  refine v_iconst dX1_letterHere_4 ?_
  refine v_bipush dX1_letterHere_5 (by decide) ?_
  refine oSNv3 (c_X3_isWithin (by omega) (by decide) (by decide)) k0_X3_isWithin ki_X3_isWithin ml_X1_19 (vRo_of hxR (by decide) (by decide)) dX1_letterHere_7 (Nat.le_of_ble_eq_true rfl) ?_
  refine v_if_eq 36 dX1_letterHere_10 (by decide) (bP_R _) (fun h10 => ?_) (fun h10 => ?_)
  · skip
    have g := bP_0.mp h10
    refine v_iconst dX1_letterHere_36 ?_
    refine o_iret hQ hlk hrt dX1_letterHere_37 ?_
    first | exact ⟨by unfold tH; rw [if_neg (show ¬ p < t by omega)], rfl⟩ | exact ⟨by unfold tH; rw [if_pos (show p < t by omega)], rfl⟩
  · skip
    have g := bP_n0.mp h10
    refine v_aload_n 0 dX1_letterHere_13 rfl rfl ?_
    refine o_getI (u := (p : Int)) lk_X1_23 rfl (rfl : SH 24 = _) h2_ dX1_letterHere_14 ?_
    refine v_aload_n 0 dX1_letterHere_17 rfl rfl ?_
    refine o_getI (u := (t : Int)) lk_X1_15 rfl (rfl : SH 24 = _) h1_ dX1_letterHere_18 ?_
    refine v_icmp_ge 36 dX1_letterHere_21 (by decide) (by omega) (by omega) (fun h21 => ?_) (fun h21 => ?_)
    · skip
      refine v_iconst dX1_letterHere_36 ?_
      refine o_iret hQ hlk hrt dX1_letterHere_37 ?_
      first | exact ⟨by unfold tH; rw [if_neg (show ¬ p < t by omega)], rfl⟩ | exact ⟨by unfold tH; rw [if_pos (show p < t by omega)], rfl⟩
    · skip
      refine v_aload_n 0 dX1_letterHere_24 rfl rfl ?_
      refine v_getR lk_X1_9 rfl (rfl : SH 24 = _) (tx_0 hLX) dX1_letterHere_25 ?_
      refine v_aload_n 0 dX1_letterHere_28 rfl rfl ?_
      refine o_getI (u := (p : Int)) lk_X1_23 rfl (rfl : SH 24 = _) h2_ dX1_letterHere_29 ?_
      refine o_iald (j := p) (u := (L p)) (rfl : SH 25 = _) (by omega) (by omega) (by rw [hK.2.1 25 (by decide)]; exact hL p (by omega)) dX1_letterHere_32 ?_
      refine v_goto 37 dX1_letterHere_33 (by decide) ?_
      refine o_iret hQ hlk hrt dX1_letterHere_37 ?_
      first | exact ⟨by unfold tH; rw [if_neg (show ¬ p < t by omega)], rfl⟩ | exact ⟨by unfold tH; rw [if_pos (show p < t by omega)], rfl⟩
set_option maxRecDepth 100000 in
set_option maxHeartbeats 400000 in
theorem c_X1_isDigitHere {l : Launch} {G : vGG} {M0 M : Mem} {L : Nat → Int} {t p : Nat} {q a f n : Int} (hL0 : LayX M0.2) (hL : ∀ k, k < t → M0.1 25 k = L k) (ht : M0.1 24 1 = (t : Int)) (hB : pLt L t) (hK : xK M0 M p q a f n) (hp : p ≤ 1000) : Cv l yX1_isDigitHere cX1_isDigitHere 1 (some .boolean) (rmo 2 42) G [aR (some 24)] M (some (aI (bP (tD L t p)))) M := by
  refine Co.ofV (plainFor_of_name (by decide)) rfl rfl ?_
  intro x hxl hxR hlk hrt Q hQ
  have hLX : LayX M.2 := by rw [hK.1]; exact hL0
  have ht80 := hB.1
  have h1_ : M.1 24 1 = (t : Int) := (hK.2.2.1 1 (by decide)).trans ht
  have h2_ := hK.2.2.2.1
  have hHb := tH_b hB p
  show vO x Q G cX1_isDigitHere RX1 0 [some (aR (some 24))] [] M
  refine v_aload_n 0 dX1_isDigitHere_0 rfl rfl ?_
  refine oVv0 1 (c_X1_letterHere hL0 hL ht hB hK (by omega)) k0_X1_letterHere ki_X1_letterHere ml_X1_40 (rfl : SH 24 = _) (by decide) (vRo_of hxR (by decide) (by decide)) dX1_isDigitHere_1 (Nat.le_of_ble_eq_true rfl) ?_
  refine v_bipush dX1_isDigitHere_4 (by decide) ?_
  refine v_bipush dX1_isDigitHere_6 (by decide) ?_
  refine oSNv3 (c_X3_isWithin (by omega) (by decide) (by decide)) k0_X3_isWithin ki_X3_isWithin ml_X1_19 (vRo_of hxR (by decide) (by decide)) dX1_isDigitHere_8 (Nat.le_of_ble_eq_true rfl) ?_
  refine o_zret hQ hlk hrt (bP_01 _) dX1_isDigitHere_11 ?_
  exact ⟨rfl, rfl⟩
set_option maxRecDepth 100000 in
set_option maxHeartbeats 400000 in
theorem c_X1_readDigit {l : Launch} {G : vGG} {M0 M : Mem} {L : Nat → Int} {t p : Nat} {q a f n : Int} (hL0 : LayX M0.2) (hL : ∀ k, k < t → M0.1 25 k = L k) (ht : M0.1 24 1 = (t : Int)) (hB : pLt L t) (hK : xK M0 M p q a f n) (hp : p ≤ 1000) {c : Int} (hc : R32 c) : Co l yX1_readDigit cX1_readDigit 3 (some .int) (rmo 2 42) G [aR (some 24), aI c] M (fun r M' => r = some (aI (if 0 ≤ tH L t p - 48 ∧ tH L t p - 48 ≤ c then tH L t p - 48 else 0)) ∧ xK M0 M' (if 0 ≤ tH L t p - 48 ∧ tH L t p - 48 ≤ c then p + 1 else p) (if 0 ≤ tH L t p - 48 ∧ tH L t p - 48 ≤ c then q else (p : Int)) (a) (f) (n)) := by
  refine Co.ofV (plainFor_of_name (by decide)) rfl rfl ?_
  intro x hxl hxR hlk hrt Q hQ
  have hLX : LayX M.2 := by rw [hK.1]; exact hL0
  have ht80 := hB.1
  have h1_ : M.1 24 1 = (t : Int) := (hK.2.2.1 1 (by decide)).trans ht
  have h2_ := hK.2.2.2.1
  have hHb := tH_b hB p
  show vO x Q G cX1_readDigit RX1 0 [some (aR (some 24)), some (aI c), none] [] M
  refine v_aload_n 0 dX1_readDigit_0 rfl rfl ?_
  refine oVv0 1 (c_X1_letterHere hL0 hL ht hB hK (by omega)) k0_X1_letterHere ki_X1_letterHere ml_X1_40 (rfl : SH 24 = _) (by decide) (vRo_of hxR (by decide) (by decide)) dX1_readDigit_1 (Nat.le_of_ble_eq_true rfl) ?_
  refine v_bipush dX1_readDigit_4 (by decide) ?_
  refine v_isub dX1_readDigit_6 ?_
  refine v_ist2 dX1_readDigit_7 rfl ?_
  refine v_iload_n 2 dX1_readDigit_8 rfl rfl ?_
  refine v_iconst dX1_readDigit_9 ?_
  refine v_iload_n 1 dX1_readDigit_10 rfl rfl ?_
  refine oSNv3 (c_X3_isWithin (by omega) (by decide) hc) k0_X3_isWithin ki_X3_isWithin ml_X1_19 (vRo_of hxR (by decide) (by decide)) dX1_readDigit_11 (Nat.le_of_ble_eq_true rfl) ?_
  refine v_if_ne 27 dX1_readDigit_14 (by decide) (bP_R _) (fun h14 => ?_) (fun h14 => ?_)
  · skip
    have g := bP_n0.mp h14
    refine v_aload_n 0 dX1_readDigit_27 rfl rfl ?_
    refine v_dup dX1_readDigit_28 rfl ?_
    refine o_getI (u := (p : Int)) lk_X1_23 rfl (rfl : SH 24 = _) h2_ dX1_readDigit_29 ?_
    refine v_iconst dX1_readDigit_32 ?_
    refine v_iadd dX1_readDigit_33 ?_
    refine v_putI lp_X1_23 rfl rfl (rfl : SH 24 = _) dX1_readDigit_34 ?_
    refine v_iload_n 2 dX1_readDigit_37 rfl rfl ?_
    refine o_iret hQ hlk hrt dX1_readDigit_38 ?_
    exact ⟨by rw [if_pos g], by rw [if_pos g, if_pos g]; exact hK.at rfl⟩
  · skip
    have g := bP_0.mp h14
    refine v_aload_n 0 dX1_readDigit_17 rfl rfl ?_
    refine v_aload_n 0 dX1_readDigit_18 rfl rfl ?_
    refine o_getI (u := (p : Int)) lk_X1_23 rfl (rfl : SH 24 = _) h2_ dX1_readDigit_19 ?_
    refine v_putI lp_X1_27 rfl rfl (rfl : SH 24 = _) dX1_readDigit_22 ?_
    refine v_iconst dX1_readDigit_25 ?_
    refine o_iret hQ hlk hrt dX1_readDigit_26 ?_
    exact ⟨by rw [if_neg g], by rw [if_neg g, if_neg g]; exact hK.fa _⟩
