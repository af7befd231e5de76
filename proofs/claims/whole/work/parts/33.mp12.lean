/-! ===== the twin: acts, the text ===== -/
def aP (L : Nat → Int) (t p : Nat) (M0 : Mem) (r : Option AV) (M' : Mem) : Prop := r = some (aI (bP ((pA L t p).1 = true))) ∧ ∃ f n : Int, tK M0 M' (pA L t p).2 (tH L t p) f n ∧ ((pA L t p).1 = true → (tH L t p ≠ 116 → f = tH L t (p + 1) - 48) ∧ (tH L t p = 112 ∨ tH L t p = 108 → n = pNv L t (p + 2)) ∧ (tH L t p = 116 → n = pNv L t (p + 1)))
theorem aP.mk {L : Nat → Int} {t p q : Nat} {M0 M' : Mem} {b : Bool} {r : Option AV} {f n : Int} (e : pA L t p = (b, q)) (hr : r = some (aI (bP (b = true)))) (hK : tK M0 M' q (tH L t p) f n) (h : b = true → (tH L t p ≠ 116 → f = tH L t (p + 1) - 48) ∧ (tH L t p = 112 ∨ tH L t p = 108 → n = pNv L t (p + 2)) ∧ (tH L t p = 116 → n = pNv L t (p + 1))) : aP L t p M0 r M' := by
  rw [aP, e]
  exact ⟨hr, f, n, hK, h⟩
section PA
variable {L : Nat → Int} {t p : Nat}
theorem pA_dr (h : tH L t p = 100 ∨ tH L t p = 114) : pA L t p = (decide (0 ≤ tH L t (p + 1) - 48 ∧ tH L t (p + 1) - 48 ≤ 7), if 0 ≤ tH L t (p + 1) - 48 ∧ tH L t (p + 1) - 48 ≤ 7 then p + 1 + 1 else p + 1) := by
  unfold pA
  rw [if_pos h]
  split
  · rw [decide_eq_true ‹_›]
  · rw [decide_eq_false ‹_›]
theorem pA_p1 (h : tH L t p = 112 ∨ tH L t p = 108) (h1 : ¬ (0 ≤ tH L t (p + 1) - 48 ∧ tH L t (p + 1) - 48 ≤ 1)) : pA L t p = (false, p + 1) := by
  unfold pA
  rw [if_neg (by omega), if_pos h, if_neg h1]
theorem pA_p2 (h : tH L t p = 112 ∨ tH L t p = 108) (h1 : 0 ≤ tH L t (p + 1) - 48 ∧ tH L t (p + 1) - 48 ≤ 1) (h2 : ¬ pOk L t (p + 2) 0 23) : pA L t p = (false, p + 2) := by
  unfold pA
  rw [if_neg (by omega), if_pos h, if_pos h1, if_neg h2]
theorem pA_p3 (h : tH L t p = 112 ∨ tH L t p = 108) (h1 : 0 ≤ tH L t (p + 1) - 48 ∧ tH L t (p + 1) - 48 ≤ 1) (h2 : pOk L t (p + 2) 0 23) (h3 : ¬ tH L t (p + 2 + pNl L t (p + 2)) = 59) : pA L t p = (false, p + 2 + pNl L t (p + 2)) := by
  unfold pA
  rw [if_neg (by omega), if_pos h, if_pos h1, if_pos h2, if_neg h3]
theorem pA_p4 (h : tH L t p = 112 ∨ tH L t p = 108) (h1 : 0 ≤ tH L t (p + 1) - 48 ∧ tH L t (p + 1) - 48 ≤ 1) (h2 : pOk L t (p + 2) 0 23) (h3 : tH L t (p + 2 + pNl L t (p + 2)) = 59) : pA L t p = (true, p + 2 + pNl L t (p + 2) + 1) := by
  unfold pA
  rw [if_neg (by omega), if_pos h, if_pos h1, if_pos h2, if_pos h3]
theorem pA_t2 (h : tH L t p = 116) (h2 : ¬ pOk L t (p + 1) 1 200) : pA L t p = (false, p + 1) := by
  unfold pA
  rw [if_neg (by omega), if_neg (by omega), if_pos h, if_neg h2]
theorem pA_t3 (h : tH L t p = 116) (h2 : pOk L t (p + 1) 1 200) (h3 : ¬ tH L t (p + 1 + pNl L t (p + 1)) = 59) : pA L t p = (false, p + 1 + pNl L t (p + 1)) := by
  unfold pA
  rw [if_neg (by omega), if_neg (by omega), if_pos h, if_pos h2, if_neg h3]
theorem pA_t4 (h : tH L t p = 116) (h2 : pOk L t (p + 1) 1 200) (h3 : tH L t (p + 1 + pNl L t (p + 1)) = 59) : pA L t p = (true, p + 1 + pNl L t (p + 1) + 1) := by
  unfold pA
  rw [if_neg (by omega), if_neg (by omega), if_pos h, if_pos h2, if_pos h3]
theorem pA_0 (h1 : ¬ tH L t p = 100) (h2 : ¬ tH L t p = 114) (h3 : ¬ tH L t p = 112) (h4 : ¬ tH L t p = 108) (h5 : ¬ tH L t p = 116) : pA L t p = (false, p) := by
  unfold pA
  rw [if_neg (by omega), if_neg (by omega), if_neg h5]
end PA
set_option maxRecDepth 100000 in
set_option maxHeartbeats 1000000 in
theorem c_X4_isAct {l : Launch} {G : vGG} {M0 M : Mem} {L : Nat → Int} {t p : Nat} {a f n : Int} (hL0 : LayM M0.2) (hL : M0.1 116 = L) (ht : M0.1 110 7 = (t : Int)) (hB : pLt L t) (hK : tK M0 M p a f n) (hp : p ≤ 100) : Co l yX4_isAct cX4_isAct 1 (some .boolean) (rmo 3 67) G [aR (some 110)] M (aP L t p M0) := by
  refine Co.ofV (plainFor_of_name (by decide)) rfl rfl ?_
  intro x hxl hxR hlk hrt Q hQ
  have hLM := hK.lay hL0
  have ht80 := hB.1
  have h7 : M.1 110 7 = (t : Int) := (hK.2.2.1 7 (by decide)).trans ht
  have h17 := hK.2.2.2.1
  have hLL : M.1 116 = L := (hK.2.1 116 (by decide)).trans hL
  have hHb := tH_b hB p
  show vO x Q G cX4_isAct RX4 0 [some (aR (some 110))] [] M
  refine v_aload_n 0 dX4_isAct_0 rfl rfl ?_
  refine v_aload_n 0 dX4_isAct_1 rfl rfl ?_
  refine oVv0 4 (c_X4_here hL0 hL ht hB hK (by omega)) k0_X4_here ki_X4_here ml_X4_146 (rfl : SH 110 = _) (by decide) (vRo_of hxR (by decide) (by decide)) dX4_isAct_2 (Nat.le_of_ble_eq_true rfl) ?_
  refine v_putI lp_X4_159 rfl rfl (rfl : SH 110 = _) dX4_isAct_5 ?_
  refine o_tK (hK.ac (tH L t p)) (fun K hK => ?_)
  refine v_aload_n 0 dX4_isAct_8 rfl rfl ?_
  refine v_bipush dX4_isAct_9 (by decide) ?_
  refine oVq1 4 (c_X4_takes (p := p) (c := 100) hL0 hL ht hB hK (by omega) (by decide)) k0_X4_takes ki_X4_takes ml_X4_162 (rfl : SH 110 = _) (by decide) (vRo_of hxR (by decide) (by decide)) dX4_isAct_11 (Nat.le_of_ble_eq_true rfl) (fun N hN => ?_)
  have hK := hN
  refine v_if_ne 26 dX4_isAct_14 (by decide) (bP_R _) (fun h14 => ?_) (fun h14 => ?_)
  · skip
    have g1 := bP_n0.mp h14
    rw [if_pos g1] at hK
    refine v_aload_n 0 dX4_isAct_26 rfl rfl ?_
    refine v_bipush dX4_isAct_27 (by decide) ?_
    refine oVq1 4 (c_X4_isFirst (p := p + 1) (c := 7) hL0 hL ht hB hK (by omega) (by decide)) k0_X4_isFirst ki_X4_isFirst ml_X4_165 (rfl : SH 110 = _) (by decide) (vRo_of hxR (by decide) (by decide)) dX4_isAct_29 (Nat.le_of_ble_eq_true rfl) (fun N hN => ?_)
    have hK := hN
    refine o_zret hQ hlk hrt (bP_01 _) dX4_isAct_32 ?_
    exact aP.mk (pA_dr (by omega)) (by rw [bP_congr (decide_eq_true_iff)]) hK (fun _ => ⟨fun _ => rfl, fun q => absurd q (by omega), fun q => absurd q (by omega)⟩)
  · skip
    have g1 := bP_0.mp h14
    rw [if_neg g1] at hK
    refine v_aload_n 0 dX4_isAct_17 rfl rfl ?_
    refine v_bipush dX4_isAct_18 (by decide) ?_
    refine oVq1 4 (c_X4_takes (p := p) (c := 114) hL0 hL ht hB hK (by omega) (by decide)) k0_X4_takes ki_X4_takes ml_X4_162 (rfl : SH 110 = _) (by decide) (vRo_of hxR (by decide) (by decide)) dX4_isAct_20 (Nat.le_of_ble_eq_true rfl) (fun N hN => ?_)
    have hK := hN
    refine v_if_eq 33 dX4_isAct_23 (by decide) (bP_R _) (fun h23 => ?_) (fun h23 => ?_)
    · skip
      have g2 := bP_0.mp h23
      rw [if_neg g2] at hK
      refine v_aload_n 0 dX4_isAct_33 rfl rfl ?_
      refine v_bipush dX4_isAct_34 (by decide) ?_
      refine oVq1 4 (c_X4_takes (p := p) (c := 112) hL0 hL ht hB hK (by omega) (by decide)) k0_X4_takes ki_X4_takes ml_X4_162 (rfl : SH 110 = _) (by decide) (vRo_of hxR (by decide) (by decide)) dX4_isAct_36 (Nat.le_of_ble_eq_true rfl) (fun N hN => ?_)
      have hK := hN
      refine v_if_ne 51 dX4_isAct_39 (by decide) (bP_R _) (fun h39 => ?_) (fun h39 => ?_)
      · skip
        have g3 := bP_n0.mp h39
        rw [if_pos g3] at hK
        refine v_aload_n 0 dX4_isAct_51 rfl rfl ?_
        refine v_iconst dX4_isAct_52 ?_
        refine oVq1 4 (c_X4_isFirst (p := p + 1) (c := 1) hL0 hL ht hB hK (by omega) (by decide)) k0_X4_isFirst ki_X4_isFirst ml_X4_165 (rfl : SH 110 = _) (by decide) (vRo_of hxR (by decide) (by decide)) dX4_isAct_53 (Nat.le_of_ble_eq_true rfl) (fun N hN => ?_)
        have hK := hN
        refine v_if_eq 82 dX4_isAct_56 (by decide) (bP_R _) (fun h56 => ?_) (fun h56 => ?_)
        · skip
          have g5 := bP_0.mp h56
          rw [if_neg g5] at hK
          refine v_iconst dX4_isAct_82 ?_
          refine o_zret hQ hlk hrt (by decide) dX4_isAct_83 ?_
          first | exact aP.mk (pA_p1 (by omega) g5) rfl hK (fun q => by cases q) | exact aP.mk (pA_p2 (by omega) g5 g6) rfl hK (fun q => by cases q) | exact aP.mk (pA_p3 (by omega) g5 g6 g7) rfl hK (fun q => by cases q) | exact aP.mk (pA_p4 (by omega) g5 g6 g7) rfl hK (fun _ => ⟨fun _ => rfl, fun _ => rfl, fun q => absurd q (by omega)⟩)
        · skip
          have g5 := bP_n0.mp h56
          rw [if_pos g5] at hK
          refine v_aload_n 0 dX4_isAct_59 rfl rfl ?_
          refine v_iconst dX4_isAct_60 ?_
          refine v_bipush dX4_isAct_61 (by decide) ?_
          refine oVq2 4 (c_X4_isNumber (p := p + 2) (lo := 0) (hi := 23) hL0 hL ht hB hK (by omega) (by decide) (by decide)) k0_X4_isNumber ki_X4_isNumber ml_X4_168 (rfl : SH 110 = _) (by decide) (vRo_of hxR (by decide) (by decide)) dX4_isAct_63 (Nat.le_of_ble_eq_true rfl) (fun N hN => ?_)
          have hK := hN
          refine v_if_eq 82 dX4_isAct_66 (by decide) (bP_R _) (fun h66 => ?_) (fun h66 => ?_)
          · skip
            have g6 := bP_0.mp h66
            rw [if_neg g6] at hK
            refine v_iconst dX4_isAct_82 ?_
            refine o_zret hQ hlk hrt (by decide) dX4_isAct_83 ?_
            first | exact aP.mk (pA_p1 (by omega) g5) rfl hK (fun q => by cases q) | exact aP.mk (pA_p2 (by omega) g5 g6) rfl hK (fun q => by cases q) | exact aP.mk (pA_p3 (by omega) g5 g6 g7) rfl hK (fun q => by cases q) | exact aP.mk (pA_p4 (by omega) g5 g6 g7) rfl hK (fun _ => ⟨fun _ => rfl, fun _ => rfl, fun q => absurd q (by omega)⟩)
          · skip
            have g6 := bP_n0.mp h66
            rw [if_pos g6] at hK
            have hnl := pNl_d g6.1
            rw [if_pos g6.1] at hK
            refine v_aload_n 0 dX4_isAct_69 rfl rfl ?_
            refine v_bipush dX4_isAct_70 (by decide) ?_
            refine oVq1 4 (c_X4_takes (p := p + 2 + pNl L t (p + 2)) (c := 59) hL0 hL ht hB hK (by omega) (by decide)) k0_X4_takes ki_X4_takes ml_X4_162 (rfl : SH 110 = _) (by decide) (vRo_of hxR (by decide) (by decide)) dX4_isAct_72 (Nat.le_of_ble_eq_true rfl) (fun N hN => ?_)
            have hK := hN
            refine v_if_eq 82 dX4_isAct_75 (by decide) (bP_R _) (fun h75 => ?_) (fun h75 => ?_)
            · skip
              have g7 := bP_0.mp h75
              rw [if_neg g7] at hK
              refine v_iconst dX4_isAct_82 ?_
              refine o_zret hQ hlk hrt (by decide) dX4_isAct_83 ?_
              first | exact aP.mk (pA_p1 (by omega) g5) rfl hK (fun q => by cases q) | exact aP.mk (pA_p2 (by omega) g5 g6) rfl hK (fun q => by cases q) | exact aP.mk (pA_p3 (by omega) g5 g6 g7) rfl hK (fun q => by cases q) | exact aP.mk (pA_p4 (by omega) g5 g6 g7) rfl hK (fun _ => ⟨fun _ => rfl, fun _ => rfl, fun q => absurd q (by omega)⟩)
            · skip
              have g7 := bP_n0.mp h75
              rw [if_pos g7] at hK
              refine v_iconst dX4_isAct_78 ?_
              refine v_goto 83 dX4_isAct_79 (by decide) ?_
              refine o_zret hQ hlk hrt (by decide) dX4_isAct_83 ?_
              first | exact aP.mk (pA_p1 (by omega) g5) rfl hK (fun q => by cases q) | exact aP.mk (pA_p2 (by omega) g5 g6) rfl hK (fun q => by cases q) | exact aP.mk (pA_p3 (by omega) g5 g6 g7) rfl hK (fun q => by cases q) | exact aP.mk (pA_p4 (by omega) g5 g6 g7) rfl hK (fun _ => ⟨fun _ => rfl, fun _ => rfl, fun q => absurd q (by omega)⟩)
      · skip
        have g3 := bP_0.mp h39
        rw [if_neg g3] at hK
        refine v_aload_n 0 dX4_isAct_42 rfl rfl ?_
        refine v_bipush dX4_isAct_43 (by decide) ?_
        refine oVq1 4 (c_X4_takes (p := p) (c := 108) hL0 hL ht hB hK (by omega) (by decide)) k0_X4_takes ki_X4_takes ml_X4_162 (rfl : SH 110 = _) (by decide) (vRo_of hxR (by decide) (by decide)) dX4_isAct_45 (Nat.le_of_ble_eq_true rfl) (fun N hN => ?_)
        have hK := hN
        refine v_if_eq 84 dX4_isAct_48 (by decide) (bP_R _) (fun h48 => ?_) (fun h48 => ?_)
        · skip
          have g4 := bP_0.mp h48
          rw [if_neg g4] at hK
          refine v_aload_n 0 dX4_isAct_84 rfl rfl ?_
          refine v_bipush dX4_isAct_85 (by decide) ?_
          refine oVq1 4 (c_X4_takes (p := p) (c := 116) hL0 hL ht hB hK (by omega) (by decide)) k0_X4_takes ki_X4_takes ml_X4_162 (rfl : SH 110 = _) (by decide) (vRo_of hxR (by decide) (by decide)) dX4_isAct_87 (Nat.le_of_ble_eq_true rfl) (fun N hN => ?_)
          have hK := hN
          refine v_if_eq 117 dX4_isAct_90 (by decide) (bP_R _) (fun h90 => ?_) (fun h90 => ?_)
          · skip
            have g8 := bP_0.mp h90
            rw [if_neg g8] at hK
            refine v_iconst dX4_isAct_117 ?_
            refine o_zret hQ hlk hrt (by decide) dX4_isAct_118 ?_
            first | exact aP.mk (pA_0 g1 g2 g3 g4 g8) rfl hK (fun q => by cases q) | exact aP.mk (pA_t2 g8 g9) rfl hK (fun q => by cases q) | exact aP.mk (pA_t3 g8 g9 g10) rfl hK (fun q => by cases q) | exact aP.mk (pA_t4 g8 g9 g10) rfl hK (fun _ => ⟨fun q => absurd g8 q, fun q => absurd q (by omega), fun _ => rfl⟩)
          · skip
            have g8 := bP_n0.mp h90
            rw [if_pos g8] at hK
            refine v_aload_n 0 dX4_isAct_93 rfl rfl ?_
            refine v_iconst dX4_isAct_94 ?_
            refine v_sipush dX4_isAct_95 (by decide) ?_
            refine oVq2 4 (c_X4_isNumber (p := p + 1) (lo := 1) (hi := 200) hL0 hL ht hB hK (by omega) (by decide) (by decide)) k0_X4_isNumber ki_X4_isNumber ml_X4_168 (rfl : SH 110 = _) (by decide) (vRo_of hxR (by decide) (by decide)) dX4_isAct_98 (Nat.le_of_ble_eq_true rfl) (fun N hN => ?_)
            have hK := hN
            refine v_if_eq 117 dX4_isAct_101 (by decide) (bP_R _) (fun h101 => ?_) (fun h101 => ?_)
            · skip
              have g9 := bP_0.mp h101
              rw [if_neg g9] at hK
              refine v_iconst dX4_isAct_117 ?_
              refine o_zret hQ hlk hrt (by decide) dX4_isAct_118 ?_
              first | exact aP.mk (pA_0 g1 g2 g3 g4 g8) rfl hK (fun q => by cases q) | exact aP.mk (pA_t2 g8 g9) rfl hK (fun q => by cases q) | exact aP.mk (pA_t3 g8 g9 g10) rfl hK (fun q => by cases q) | exact aP.mk (pA_t4 g8 g9 g10) rfl hK (fun _ => ⟨fun q => absurd g8 q, fun q => absurd q (by omega), fun _ => rfl⟩)
            · skip
              have g9 := bP_n0.mp h101
              rw [if_pos g9] at hK
              have hnl := pNl_d g9.1
              rw [if_pos g9.1] at hK
              refine v_aload_n 0 dX4_isAct_104 rfl rfl ?_
              refine v_bipush dX4_isAct_105 (by decide) ?_
              refine oVq1 4 (c_X4_takes (p := p + 1 + pNl L t (p + 1)) (c := 59) hL0 hL ht hB hK (by omega) (by decide)) k0_X4_takes ki_X4_takes ml_X4_162 (rfl : SH 110 = _) (by decide) (vRo_of hxR (by decide) (by decide)) dX4_isAct_107 (Nat.le_of_ble_eq_true rfl) (fun N hN => ?_)
              have hK := hN
              refine v_if_eq 117 dX4_isAct_110 (by decide) (bP_R _) (fun h110 => ?_) (fun h110 => ?_)
              · skip
                have g10 := bP_0.mp h110
                rw [if_neg g10] at hK
                refine v_iconst dX4_isAct_117 ?_
                refine o_zret hQ hlk hrt (by decide) dX4_isAct_118 ?_
                first | exact aP.mk (pA_0 g1 g2 g3 g4 g8) rfl hK (fun q => by cases q) | exact aP.mk (pA_t2 g8 g9) rfl hK (fun q => by cases q) | exact aP.mk (pA_t3 g8 g9 g10) rfl hK (fun q => by cases q) | exact aP.mk (pA_t4 g8 g9 g10) rfl hK (fun _ => ⟨fun q => absurd g8 q, fun q => absurd q (by omega), fun _ => rfl⟩)
              · skip
                have g10 := bP_n0.mp h110
                rw [if_pos g10] at hK
                refine v_iconst dX4_isAct_113 ?_
                refine v_goto 118 dX4_isAct_114 (by decide) ?_
                refine o_zret hQ hlk hrt (by decide) dX4_isAct_118 ?_
                first | exact aP.mk (pA_0 g1 g2 g3 g4 g8) rfl hK (fun q => by cases q) | exact aP.mk (pA_t2 g8 g9) rfl hK (fun q => by cases q) | exact aP.mk (pA_t3 g8 g9 g10) rfl hK (fun q => by cases q) | exact aP.mk (pA_t4 g8 g9 g10) rfl hK (fun _ => ⟨fun q => absurd g8 q, fun q => absurd q (by omega), fun _ => rfl⟩)
        · skip
          have g4 := bP_n0.mp h48
          rw [if_pos g4] at hK
          refine v_aload_n 0 dX4_isAct_51 rfl rfl ?_
          refine v_iconst dX4_isAct_52 ?_
          refine oVq1 4 (c_X4_isFirst (p := p + 1) (c := 1) hL0 hL ht hB hK (by omega) (by decide)) k0_X4_isFirst ki_X4_isFirst ml_X4_165 (rfl : SH 110 = _) (by decide) (vRo_of hxR (by decide) (by decide)) dX4_isAct_53 (Nat.le_of_ble_eq_true rfl) (fun N hN => ?_)
          have hK := hN
          refine v_if_eq 82 dX4_isAct_56 (by decide) (bP_R _) (fun h56 => ?_) (fun h56 => ?_)
          · skip
            have g5 := bP_0.mp h56
            rw [if_neg g5] at hK
            refine v_iconst dX4_isAct_82 ?_
            refine o_zret hQ hlk hrt (by decide) dX4_isAct_83 ?_
            first | exact aP.mk (pA_p1 (by omega) g5) rfl hK (fun q => by cases q) | exact aP.mk (pA_p2 (by omega) g5 g6) rfl hK (fun q => by cases q) | exact aP.mk (pA_p3 (by omega) g5 g6 g7) rfl hK (fun q => by cases q) | exact aP.mk (pA_p4 (by omega) g5 g6 g7) rfl hK (fun _ => ⟨fun _ => rfl, fun _ => rfl, fun q => absurd q (by omega)⟩)
          · skip
            have g5 := bP_n0.mp h56
            rw [if_pos g5] at hK
            refine v_aload_n 0 dX4_isAct_59 rfl rfl ?_
            refine v_iconst dX4_isAct_60 ?_
            refine v_bipush dX4_isAct_61 (by decide) ?_
            refine oVq2 4 (c_X4_isNumber (p := p + 2) (lo := 0) (hi := 23) hL0 hL ht hB hK (by omega) (by decide) (by decide)) k0_X4_isNumber ki_X4_isNumber ml_X4_168 (rfl : SH 110 = _) (by decide) (vRo_of hxR (by decide) (by decide)) dX4_isAct_63 (Nat.le_of_ble_eq_true rfl) (fun N hN => ?_)
            have hK := hN
            refine v_if_eq 82 dX4_isAct_66 (by decide) (bP_R _) (fun h66 => ?_) (fun h66 => ?_)
            · skip
              have g6 := bP_0.mp h66
              rw [if_neg g6] at hK
              refine v_iconst dX4_isAct_82 ?_
              refine o_zret hQ hlk hrt (by decide) dX4_isAct_83 ?_
              first | exact aP.mk (pA_p1 (by omega) g5) rfl hK (fun q => by cases q) | exact aP.mk (pA_p2 (by omega) g5 g6) rfl hK (fun q => by cases q) | exact aP.mk (pA_p3 (by omega) g5 g6 g7) rfl hK (fun q => by cases q) | exact aP.mk (pA_p4 (by omega) g5 g6 g7) rfl hK (fun _ => ⟨fun _ => rfl, fun _ => rfl, fun q => absurd q (by omega)⟩)
            · skip
              have g6 := bP_n0.mp h66
              rw [if_pos g6] at hK
              have hnl := pNl_d g6.1
              rw [if_pos g6.1] at hK
              refine v_aload_n 0 dX4_isAct_69 rfl rfl ?_
              refine v_bipush dX4_isAct_70 (by decide) ?_
              refine oVq1 4 (c_X4_takes (p := p + 2 + pNl L t (p + 2)) (c := 59) hL0 hL ht hB hK (by omega) (by decide)) k0_X4_takes ki_X4_takes ml_X4_162 (rfl : SH 110 = _) (by decide) (vRo_of hxR (by decide) (by decide)) dX4_isAct_72 (Nat.le_of_ble_eq_true rfl) (fun N hN => ?_)
              have hK := hN
              refine v_if_eq 82 dX4_isAct_75 (by decide) (bP_R _) (fun h75 => ?_) (fun h75 => ?_)
              · skip
                have g7 := bP_0.mp h75
                rw [if_neg g7] at hK
                refine v_iconst dX4_isAct_82 ?_
                refine o_zret hQ hlk hrt (by decide) dX4_isAct_83 ?_
                first | exact aP.mk (pA_p1 (by omega) g5) rfl hK (fun q => by cases q) | exact aP.mk (pA_p2 (by omega) g5 g6) rfl hK (fun q => by cases q) | exact aP.mk (pA_p3 (by omega) g5 g6 g7) rfl hK (fun q => by cases q) | exact aP.mk (pA_p4 (by omega) g5 g6 g7) rfl hK (fun _ => ⟨fun _ => rfl, fun _ => rfl, fun q => absurd q (by omega)⟩)
              · skip
                have g7 := bP_n0.mp h75
                rw [if_pos g7] at hK
                refine v_iconst dX4_isAct_78 ?_
                refine v_goto 83 dX4_isAct_79 (by decide) ?_
                refine o_zret hQ hlk hrt (by decide) dX4_isAct_83 ?_
                first | exact aP.mk (pA_p1 (by omega) g5) rfl hK (fun q => by cases q) | exact aP.mk (pA_p2 (by omega) g5 g6) rfl hK (fun q => by cases q) | exact aP.mk (pA_p3 (by omega) g5 g6 g7) rfl hK (fun q => by cases q) | exact aP.mk (pA_p4 (by omega) g5 g6 g7) rfl hK (fun _ => ⟨fun _ => rfl, fun _ => rfl, fun q => absurd q (by omega)⟩)
    · skip
      have g2 := bP_n0.mp h23
      rw [if_pos g2] at hK
      refine v_aload_n 0 dX4_isAct_26 rfl rfl ?_
      refine v_bipush dX4_isAct_27 (by decide) ?_
      refine oVq1 4 (c_X4_isFirst (p := p + 1) (c := 7) hL0 hL ht hB hK (by omega) (by decide)) k0_X4_isFirst ki_X4_isFirst ml_X4_165 (rfl : SH 110 = _) (by decide) (vRo_of hxR (by decide) (by decide)) dX4_isAct_29 (Nat.le_of_ble_eq_true rfl) (fun N hN => ?_)
      have hK := hN
      refine o_zret hQ hlk hrt (bP_01 _) dX4_isAct_32 ?_
      exact aP.mk (pA_dr (by omega)) (by rw [bP_congr (decide_eq_true_iff)]) hK (fun _ => ⟨fun _ => rfl, fun q => absurd q (by omega), fun q => absurd q (by omega)⟩)
