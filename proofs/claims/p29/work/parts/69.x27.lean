/-! ===== the class: the text as a whole ===== -/
theorem xK.ini (M : Mem) : xK M (vup (vup M.1 24 2 0) 24 3 (-1000005), M.2) 0 (-1000005) (M.1 24 4) (M.1 24 5) (M.1 24 6) := by
  refine ⟨rfl, fun i hi => ?_, fun k hk => ?_, ?_, ?_, ?_, ?_, ?_⟩ <;> dsimp only
  · funext b; rw [vup_o (by omega), vup_o (by omega)]
  · rw [vup_o (by omega), vup_o (by omega)]
  · rw [vup_o (by omega), vup_s]; rfl
  · rw [vup_s]
  · rw [vup_o (by omega), vup_o (by omega)]
  · rw [vup_o (by omega), vup_o (by omega)]
  · rw [vup_o (by omega), vup_o (by omega)]
theorem aFault_b {L : Nat → Int} {t : Nat} (h : t ≤ 80) : -1000005 ≤ aFault L t ∧ aFault L t ≤ 100 := by
  have := pT_b (L := L) h 80 0 (by decide)
  unfold aFault
  split <;> omega
set_option maxRecDepth 100000 in
set_option maxHeartbeats 400000 in
theorem c_X1_begin {l : Launch} {G : vGG} {M : Mem} : Co l yX1_begin cX1_begin 1 none (rmo 0 0) G [aR (some 24)] M (fun r M' => r = none ∧ xK M M' 0 (-1000005) (M.1 24 4) (M.1 24 5) (M.1 24 6)) := by
  refine Co.ofV (plainFor_of_name (by decide)) rfl rfl ?_
  intro x hxl hxR hlk hrt Q hQ
  show vO x Q G cX1_begin RX1 0 [some (aR (some 24))] [] M
  refine v_aload_n 0 dX1_begin_0 rfl rfl ?_
  refine v_iconst dX1_begin_1 ?_
  refine v_putI lp_X1_23 rfl rfl (rfl : SH 24 = _) dX1_begin_2 ?_
  refine v_aload_n 0 dX1_begin_5 rfl rfl ?_
  refine v_ldc (-1000005) kc_X1_26 (by decide) dX1_begin_6 ?_
  refine v_putI lp_X1_27 rfl rfl (rfl : SH 24 = _) dX1_begin_8 ?_
  refine o_ret hQ hlk hrt dX1_begin_11 ?_
  exact ⟨rfl, xK.ini M⟩
set_option maxRecDepth 100000 in
set_option maxHeartbeats 400000 in
theorem c_X1_hasMore {l : Launch} {G : vGG} {M : Mem} {p t : Nat} (hp : M.1 24 2 = (p : Int)) (ht : M.1 24 1 = (t : Int)) (hb : p ≤ 200 ∧ t ≤ 200) : Cv l yX1_hasMore cX1_hasMore 1 (some .boolean) (rmo 0 0) G [aR (some 24)] M (some (aI (bP (p < t)))) M := by
  refine Co.ofV (plainFor_of_name (by decide)) rfl rfl ?_
  intro x hxl hxR hlk hrt Q hQ
  show vO x Q G cX1_hasMore RX1 0 [some (aR (some 24))] [] M
  refine v_aload_n 0 dX1_hasMore_0 rfl rfl ?_
  refine o_getI (u := (p : Int)) lk_X1_23 rfl (rfl : SH 24 = _) hp dX1_hasMore_1 ?_
  refine v_aload_n 0 dX1_hasMore_4 rfl rfl ?_
  refine o_getI (u := (t : Int)) lk_X1_15 rfl (rfl : SH 24 = _) ht dX1_hasMore_5 ?_
  refine v_icmp_ge 15 dX1_hasMore_8 (by decide) (by omega) (by omega) (fun h8 => ?_) (fun h8 => ?_)
  · skip
    refine v_iconst dX1_hasMore_15 ?_
    refine o_zret hQ hlk hrt (by decide) dX1_hasMore_16 ?_
    first | exact ⟨by rw [bP_f (by omega)], rfl⟩ | exact ⟨by rw [bP_t (by omega)], rfl⟩
  · skip
    refine v_iconst dX1_hasMore_11 ?_
    refine v_goto 16 dX1_hasMore_12 (by decide) ?_
    refine o_zret hQ hlk hrt (by decide) dX1_hasMore_16 ?_
    first | exact ⟨by rw [bP_f (by omega)], rfl⟩ | exact ⟨by rw [bP_t (by omega)], rfl⟩
set_option maxRecDepth 100000 in
set_option maxHeartbeats 400000 in
theorem c_X1_findFault {l : Launch} {G : vGG} {M : Mem} {L : Nat → Int} {t : Nat} (hLX : LayX M.2) (hL : ∀ k, k < t → M.1 25 k = L k) (ht : M.1 24 1 = (t : Int)) (hB : pLt L t) : Co l yX1_findFault cX1_findFault 2 (some .int) (rmo 5 109) G [aR (some 24)] M (fun r M' => r = some (aI (aFault L t)) ∧ ∃ (p : Nat) (q a f n : Int), xK M M' p q a f n) := by
  refine Co.ofV (plainFor_of_name (by decide)) rfl rfl ?_
  intro x hxl hxR hlk hrt Q hQ
  have ht80 := hB.1
  show vO x Q G cX1_findFault RX1 0 [some (aR (some 24)), none] [] M
  refine v_aload_n 0 dX1_findFault_0 rfl rfl ?_
  refine oVm0 1 (c_X1_begin) k0_X1_begin ki_X1_begin ml_X1_30 (rfl : SH 24 = _) (by decide) (vRo_of hxR (by decide) (by decide)) dX1_findFault_1 (Nat.le_of_ble_eq_true rfl) (fun N hN => ?_)
  have hK := hN
  refine v_iconst dX1_findFault_4 ?_
  refine v_ist1 dX1_findFault_5 rfl ?_
  have lp6 : ∀ (dd j p : Nat) (q a f n : Int) (K : Mem), j + dd = 80 → p ≤ 100 → xK M K p q a f n → ((q = -1000005 ∧ pT L t dd p = pT L t 80 0) ∨ (q = aFault L t ∧ q ≠ -1000005)) → vO x Q G cX1_findFault RX1 6 [some (aR (some 24)), some (aI (j : Int))] [] K := by
    intro dd
    induction dd with
    | zero =>
      intro j p q a f n K hd hp hK he
      have hqf : q = aFault L t := by
        rcases he with ⟨e1, e2⟩ | e
        · rw [e1, aFault, ← e2]; rfl
        · exact e.1
      refine v_iload_n 1 dX1_findFault_6 rfl rfl ?_
      refine v_bipush dX1_findFault_7 (by decide) ?_
      refine v_icmp_ge 38 dX1_findFault_9 (by decide) (by omega) (by decide) (fun h9 => ?_) (fun h9 => ?_)
      · skip
        refine v_aload_n 0 dX1_findFault_38 rfl rfl ?_
        refine o_getI (u := q) lk_X1_27 rfl (rfl : SH 24 = _) hK.2.2.2.2.1 dX1_findFault_39 ?_
        refine o_iret hQ hlk hrt dX1_findFault_42 ?_
        exact ⟨by rw [hqf], _, _, _, _, _, hK⟩
      · skip
        exact absurd h9 (by omega)
    | succ dd ih =>
      intro j p q a f n K hd hp hK he
      have hqb := aFault_b (L := L) ht80
      have hqR : R32 q := by rcases he with e | e <;> omega
      have h2_ := hK.2.2.2.1
      have h1_ : K.1 24 1 = (t : Int) := (hK.2.2.1 1 (by decide)).trans ht
      refine v_iload_n 1 dX1_findFault_6 rfl rfl ?_
      refine v_bipush dX1_findFault_7 (by decide) ?_
      refine v_icmp_ge 38 dX1_findFault_9 (by decide) (by omega) (by decide) (fun h9 => ?_) (fun h9 => ?_)
      · skip
        exact absurd h9 (by omega)
      · skip
        refine v_aload_n 0 dX1_findFault_12 rfl rfl ?_
        refine oVv0 1 (c_X1_hasMore h2_ h1_ (by omega)) k0_X1_hasMore ki_X1_hasMore ml_X1_33 (rfl : SH 24 = _) (by decide) (vRo_of hxR (by decide) (by decide)) dX1_findFault_13 (Nat.le_of_ble_eq_true rfl) ?_
        refine v_if_eq 38 dX1_findFault_16 (by decide) (bP_R _) (fun h16 => ?_) (fun h16 => ?_)
        · skip
          have g16 := bP_0.mp h16
          have hqf : q = aFault L t := by
            rcases he with ⟨e1, e2⟩ | e
            · rw [e1, aFault, ← e2, pT, if_neg g16]; rfl
            · exact e.1
          refine v_aload_n 0 dX1_findFault_38 rfl rfl ?_
          refine o_getI (u := q) lk_X1_27 rfl (rfl : SH 24 = _) hK.2.2.2.2.1 dX1_findFault_39 ?_
          refine o_iret hQ hlk hrt dX1_findFault_42 ?_
          exact ⟨by rw [hqf], _, _, _, _, _, hK⟩
        · skip
          have g16 := bP_n0.mp h16
          refine v_aload_n 0 dX1_findFault_19 rfl rfl ?_
          refine o_getI (u := q) lk_X1_27 rfl (rfl : SH 24 = _) hK.2.2.2.2.1 dX1_findFault_20 ?_
          refine v_ldc (-1000005) kc_X1_26 (by decide) dX1_findFault_23 ?_
          refine v_icmp_ne 38 dX1_findFault_25 (by decide) hqR (by decide) (fun h25 => ?_) (fun h25 => ?_)
          · skip
            have hqf : q = aFault L t := by
              rcases he with e | e
              · exact absurd e.1 h25
              · exact e.1
            refine v_aload_n 0 dX1_findFault_38 rfl rfl ?_
            refine o_getI (u := q) lk_X1_27 rfl (rfl : SH 24 = _) hK.2.2.2.2.1 dX1_findFault_39 ?_
            refine o_iret hQ hlk hrt dX1_findFault_42 ?_
            exact ⟨by rw [hqf], _, _, _, _, _, hK⟩
          · skip
            have he1 : pT L t (dd + 1) p = pT L t 80 0 := by
              rcases he with e | e
              · exact e.2
              · exact absurd h25 e.2
            subst h25
            refine v_aload_n 0 dX1_findFault_28 rfl rfl ?_
            refine oVm0 1 (c_X1_readAct hLX hL ht hB hK (by omega)) k0_X1_readAct ki_X1_readAct ml_X1_37 (rfl : SH 24 = _) (by decide) (vRo_of hxR (by decide) (by decide)) dX1_findFault_29 (Nat.le_of_ble_eq_true rfl) (fun N hN => ?_)
            obtain ⟨p', q', f2, n2, hK, hp', hy, hn⟩ := hN
            have he2 : (q' = -1000005 ∧ pT L t dd p' = pT L t 80 0) ∨ (q' = aFault L t ∧ q' ≠ -1000005) := by
              rw [pT, if_pos g16] at he1
              by_cases g : (pA L t p).1 = true
              · have hy := hy g
                rw [if_pos g] at he1
                exact .inl ⟨hy.1, by rw [hy.2.1]; exact he1⟩
              · have hn := hn g
                rw [if_neg g] at he1
                refine .inr ⟨?_, by omega⟩
                rw [hn, aFault, ← he1, if_neg (fun o => by cases o)]
            refine v_iinc1 dX1_findFault_32 rfl ?_
            refine v_goto 6 dX1_findFault_35 (by decide) ?_
            exact ih (j + 1) p' q' _ _ _ N (by omega) (by omega) hK he2
  exact lp6 80 0 0 _ _ _ _ _ rfl (by decide) hK (.inl ⟨rfl, rfl⟩)
def xAdd (t : Nat) (z : Int) (M : Mem) : Mem := (vup (vup M.1 25 t z) 24 1 ((t + 1 : Nat) : Int), M.2)
set_option maxRecDepth 100000 in
set_option maxHeartbeats 400000 in
theorem c_X1_add {l : Launch} {G : vGG} {M : Mem} (hLX : LayX M.2) {t : Nat} (ht : M.1 24 1 = (t : Int)) (ht80 : t ≤ 80) {z : Int} : Co l yX1_add cX1_add 2 (some .boolean) (rmo 1 22) G [aR (some 24), aI z] M (fun r M' => r = some (aI (bP (t ≤ 79))) ∧ M' = if t ≤ 79 then xAdd t z M else M) := by
  refine Co.ofV (plainFor_of_name (by decide)) rfl rfl ?_
  intro x hxl hxR hlk hrt Q hQ
  show vO x Q G cX1_add RX1 0 [some (aR (some 24)), some (aI z)] [] M
  refine v_aload_n 0 dX1_add_0 rfl rfl ?_
  refine o_getI (u := (t : Int)) lk_X1_15 rfl (rfl : SH 24 = _) ht dX1_add_1 ?_
  refine v_iconst dX1_add_4 ?_
  refine v_bipush dX1_add_5 (by decide) ?_
  refine oSNv3 (c_X3_isWithin (by omega) (by decide) (by decide)) k0_X3_isWithin ki_X3_isWithin ml_X1_19 (vRo_of hxR (by decide) (by decide)) dX1_add_7 (Nat.le_of_ble_eq_true rfl) ?_
  refine v_if_ne 15 dX1_add_10 (by decide) (bP_R _) (fun h10 => ?_) (fun h10 => ?_)
  · skip
    have g := bP_n0.mp h10
    refine v_aload_n 0 dX1_add_15 rfl rfl ?_
    refine v_getR lk_X1_9 rfl (rfl : SH 24 = _) (tx_0 hLX) dX1_add_16 ?_
    refine v_aload_n 0 dX1_add_19 rfl rfl ?_
    refine o_getI (u := (t : Int)) lk_X1_15 rfl (rfl : SH 24 = _) ht dX1_add_20 ?_
    refine v_iload_n 1 dX1_add_23 rfl rfl ?_
    refine o_iast (j := t) (by omega) (rfl : SH 25 = _) (by omega) (by omega) dX1_add_24 ?_
    refine v_aload_n 0 dX1_add_25 rfl rfl ?_
    refine v_dup dX1_add_26 rfl ?_
    refine o_getI (u := (t : Int)) lk_X1_15 rfl (rfl : SH 24 = _) (by dsimp only; rw [vup_o (by omega)]; exact ht) dX1_add_27 ?_
    refine v_iconst dX1_add_30 ?_
    refine v_iadd dX1_add_31 ?_
    refine v_putI lp_X1_15 rfl rfl (rfl : SH 24 = _) dX1_add_32 ?_
    refine v_iconst dX1_add_35 ?_
    refine o_zret hQ hlk hrt (by decide) dX1_add_36 ?_
    exact ⟨by rw [bP_t (by omega)], by rw [if_pos (by omega)]; rfl⟩
  · skip
    have g := bP_0.mp h10
    refine v_iconst dX1_add_13 ?_
    refine o_zret hQ hlk hrt (by decide) dX1_add_14 ?_
    exact ⟨by rw [bP_f (by omega)], by rw [if_neg (by omega)]⟩
def aApp (t : Nat) (z : Int) : Int := if 0 ≤ z ∧ z ≤ 127 then (if t ≤ 79 then ((t + 1 : Nat) : Int) else -1000004) else -1000002
set_option maxRecDepth 100000 in
set_option maxHeartbeats 400000 in
theorem c_X3_append {l : Launch} {G : vGG} {M : Mem} (hLX : LayX M.2) {t : Nat} (ht : M.1 24 1 = (t : Int)) (ht80 : t ≤ 80) {z : Int} (hz : R32 z) : Co l yX3_append cX3_append 2 (some .int) (rmo 2 43) G [aR (some 0), aI z] M (fun r M' => r = some (aI (aApp t z)) ∧ M' = if (0 ≤ z ∧ z ≤ 127) ∧ t ≤ 79 then xAdd t z M else M) := by
  refine Co.ofV (plainFor_of_name (by decide)) rfl rfl ?_
  intro x hxl hxR hlk hrt Q hQ
  show vO x Q G cX3_append RX3 0 [some (aR (some 0)), some (aI z)] [] M
  refine v_iload_n 1 dX3_append_0 rfl rfl ?_
  refine v_iconst dX3_append_1 ?_
  refine v_bipush dX3_append_2 (by decide) ?_
  refine oSv3 (c_X3_isWithin hz (by decide) (by decide)) k0_X3_isWithin ki_X3_isWithin ml_X3_55 (vRo_of hxR (by decide) (by decide)) dX3_append_4 (Nat.le_of_ble_eq_true rfl) ?_
  refine v_if_ne 13 dX3_append_7 (by decide) (bP_R _) (fun h7 => ?_) (fun h7 => ?_)
  · skip
    have g := bP_n0.mp h7
    refine v_aload_n 0 dX3_append_13 rfl rfl ?_
    refine v_getR lk_X3_33 rfl (rfl : SH 0 = _) (ow_5 hLX) dX3_append_14 ?_
    refine v_iload_n 1 dX3_append_17 rfl rfl ?_
    refine oVq1 1 (c_X1_add hLX ht ht80) k0_X1_add ki_X1_add ml_X3_138 (rfl : SH 24 = _) (by decide) (vRo_of hxR (by decide) (by decide)) dX3_append_18 (Nat.le_of_ble_eq_true rfl) (fun N hN => ?_)
    obtain hN := hN
    refine v_if_eq 34 dX3_append_21 (by decide) (bP_R _) (fun h21 => ?_) (fun h21 => ?_)
    · skip
      have g2 := bP_0.mp h21
      rw [if_neg g2] at hN
      subst hN
      refine v_ldc (-1000004) kc_X3_110 (by decide) dX3_append_34 ?_
      refine o_iret hQ hlk hrt dX3_append_36 ?_
      first | exact ⟨by rw [aApp, if_pos g, if_pos g2], by rw [if_pos ⟨g, g2⟩]⟩ | exact ⟨by rw [aApp, if_pos g, if_neg g2], by rw [if_neg (fun o => g2 o.2)]⟩
    · skip
      have g2 := bP_n0.mp h21
      rw [if_pos g2] at hN
      subst hN
      refine v_aload_n 0 dX3_append_24 rfl rfl ?_
      refine v_getR lk_X3_33 rfl (rfl : SH 0 = _) (ow_5 hLX) dX3_append_25 ?_
      refine o_getI (u := ((t + 1 : Nat) : Int)) lk_X3_141 rfl (rfl : SH 24 = _) (by unfold xAdd; dsimp only; rw [vup_s]) dX3_append_28 ?_
      refine v_goto 36 dX3_append_31 (by decide) ?_
      refine o_iret hQ hlk hrt dX3_append_36 ?_
      first | exact ⟨by rw [aApp, if_pos g, if_pos g2], by rw [if_pos ⟨g, g2⟩]⟩ | exact ⟨by rw [aApp, if_pos g, if_neg g2], by rw [if_neg (fun o => g2 o.2)]⟩
  · skip
    have g := bP_0.mp h7
    refine v_ldc (-1000002) kc_X3_59 (by decide) dX3_append_10 ?_
    refine o_iret hQ hlk hrt dX3_append_12 ?_
    exact ⟨by rw [aApp, if_neg g], by rw [if_neg (fun o => g o.1)]⟩
