/-! ===== the class: an act is carried out ===== -/
def xE (c f n : Int) (w : Sg) : Sg := if c = 116 then sTks w n.toNat else if c = 100 ∨ c = 114 then sDra w f.toNat (bP (c = 100)) else sPre w f.toNat n.toNat (bP (c = 112))
theorem xE_116 {f : Int} {k : Nat} {w : Sg} : xE 116 f (k : Int) w = sTks w k := by unfold xE; rw [if_pos rfl, Int.toNat_natCast]
theorem xE_100 {s : Nat} {n : Int} {w : Sg} : xE 100 (s : Int) n w = sDra w s 1 := by unfold xE; rw [if_neg (by decide), if_pos (by decide), Int.toNat_natCast, bP_t rfl]
theorem xE_114 {s : Nat} {n : Int} {w : Sg} : xE 114 (s : Int) n w = sDra w s 0 := by unfold xE; rw [if_neg (by decide), if_pos (by decide), Int.toNat_natCast, bP_f (by decide)]
theorem xE_112 {s k : Nat} {w : Sg} : xE 112 (s : Int) (k : Int) w = sPre w s k 1 := by unfold xE; rw [if_neg (by decide), if_neg (by decide), Int.toNat_natCast, Int.toNat_natCast, bP_t rfl]
theorem xE_108 {s k : Nat} {w : Sg} : xE 108 (s : Int) (k : Int) w = sPre w s k 0 := by unfold xE; rw [if_neg (by decide), if_neg (by decide), Int.toNat_natCast, Int.toNat_natCast, bP_f (by decide)]
def xO (c f n : Int) : Prop := (c = 116 ∧ 1 ≤ n ∧ n ≤ 200) ∨ ((c = 100 ∨ c = 114) ∧ 0 ≤ f ∧ f ≤ 7) ∨ ((c = 112 ∨ c = 108) ∧ (0 ≤ f ∧ f ≤ 1) ∧ 0 ≤ n ∧ n ≤ 23)
theorem pE_x {L : Nat → Int} {t p : Nat} {f n : Int} (w : Sg) (ho : (pA L t p).1 = true) (h1 : tH L t p ≠ 116 → f = tH L t (p + 1) - 48) (h2 : tH L t p = 112 ∨ tH L t p = 108 → n = pNv L t (p + 2)) (h3 : tH L t p = 116 → n = pNv L t (p + 1)) : xE (tH L t p) f n w = pE L t w p ∧ xO (tH L t p) f n := by
  have hk := pA_ok ho
  unfold xE pE xO
  by_cases g : tH L t p = 116
  · rw [if_pos g, if_pos g, h3 g]
    exact ⟨rfl, by omega⟩
  · rw [if_neg g, if_neg g, h1 g]
    by_cases g2 : tH L t p = 100 ∨ tH L t p = 114
    · rw [if_pos g2, if_pos g2]
      exact ⟨rfl, by omega⟩
    · rw [if_neg g2, if_neg g2, h2 (by omega)]
      exact ⟨rfl, by omega⟩
set_option maxRecDepth 100000 in
set_option maxHeartbeats 400000 in
theorem c_X3_carryOutAct {l : Launch} {G : vGG} {M : Mem} {w : Sg} (hLX : LayX M.2) (hX : XS 1 w M.1) (hI : sInv w) {c f n : Int} (h4 : M.1 24 4 = c) (h5 : M.1 24 5 = f) (h6 : M.1 24 6 = n) (ho : xO c f n) : Co l yX3_carryOutAct cX3_carryOutAct 1 none (rmo 5 116) G [aR (some 0)] M (fun r M' => r = none ∧ fz 1 11 33 40 M M' ∧ XS 1 (xE c f n w) M'.1) := by
  refine Co.ofV (plainFor_of_name (by decide)) rfl rfl ?_
  intro x hxl hxR hlk hrt Q hQ
  show vO x Q G cX3_carryOutAct RX3 0 [some (aR (some 0))] [] M
  refine v_aload_n 0 dX3_carryOutAct_0 rfl rfl ?_
  refine v_getR lk_X3_33 rfl (rfl : SH 0 = _) (ow_5 hLX) dX3_carryOutAct_1 ?_
  refine o_getI (u := c) lk_X3_163 rfl (rfl : SH 24 = _) h4 dX3_carryOutAct_4 ?_
  rcases ho with ⟨rfl, hn⟩ | ⟨rfl | rfl, hf⟩ | ⟨rfl | rfl, hf, hn⟩
  · skip
    obtain ⟨k, rfl⟩ : ∃ k : Nat, n = (k : Int) := ⟨n.toNat, by omega⟩
    refine v_lookup 178 dX3_carryOutAct_7 (by decide) (by decide) rfl (by decide) ?_
    refine v_aload_n 0 dX3_carryOutAct_178 rfl rfl ?_
    refine v_aload_n 0 dX3_carryOutAct_179 rfl rfl ?_
    refine v_getR lk_X3_10 rfl (rfl : SH 0 = _) (ow_0 hLX) dX3_carryOutAct_180 ?_
    refine v_aload_n 0 dX3_carryOutAct_183 rfl rfl ?_
    refine v_getR lk_X3_33 rfl (rfl : SH 0 = _) (ow_5 hLX) dX3_carryOutAct_184 ?_
    refine o_getI (u := ((k : Nat) : Int)) lk_X3_169 rfl (rfl : SH 24 = _) h6 dX3_carryOutAct_187 ?_
    refine oVq2 3 (c_X3_letPass stB_1 hLX hX hI (by omega)) k0_X3_letPass ki_X3_letPass ml_X3_131 (rfl : SH 0 = _) (by decide) (vRo_of hxR (by decide) (by decide)) dX3_carryOutAct_190 (Nat.le_of_ble_eq_true rfl) (fun N hN => ?_)
    obtain ⟨hF, hX2⟩ := hN
    refine v_pop dX3_carryOutAct_193 rfl ?_
    refine o_ret hQ hlk hrt dX3_carryOutAct_194 ?_
    exact ⟨rfl, hF, by rw [xE_116]; exact hX2⟩
  · skip
    obtain ⟨s, rfl⟩ : ∃ s : Nat, f = (s : Int) := ⟨f.toNat, by omega⟩
    refine v_lookup 48 dX3_carryOutAct_7 (by decide) (by decide) rfl (by decide) ?_
    refine v_aload_n 0 dX3_carryOutAct_48 rfl rfl ?_
    refine v_getR lk_X3_33 rfl (rfl : SH 0 = _) (ow_5 hLX) dX3_carryOutAct_49 ?_
    refine o_getI (u := ((s : Nat) : Int)) lk_X3_166 rfl (rfl : SH 24 = _) h5 dX3_carryOutAct_52 ?_
    refine oSv1 (c_X3_isStop (by omega)) k0_X3_isStop ki_X3_isStop ml_X3_47 (vRo_of hxR (by decide) (by decide)) dX3_carryOutAct_55 (Nat.le_of_ble_eq_true rfl) ?_
    refine v_if_eq 194 dX3_carryOutAct_58 (by decide) (bP_R _) (fun h58 => ?_) (fun h58 => ?_)
    · skip
      exact absurd (show 0 ≤ (s : Int) ∧ (s : Int) ≤ 7 by omega) (bP_0.mp h58)
    · skip
      refine v_aload_n 0 dX3_carryOutAct_61 rfl rfl ?_
      refine v_getR lk_X3_10 rfl (rfl : SH 0 = _) (ow_0 hLX) dX3_carryOutAct_62 ?_
      refine v_aload_n 0 dX3_carryOutAct_65 rfl rfl ?_
      refine v_getR lk_X3_10 rfl (rfl : SH 0 = _) (ow_0 hLX) dX3_carryOutAct_66 ?_
      refine o_getI (u := ((sDrw w : Nat) : Int)) lk_X3_80 rfl (st_o stB_1) (xs_drw hX) dX3_carryOutAct_69 ?_
      refine v_aload_n 0 dX3_carryOutAct_72 rfl rfl ?_
      refine v_getR lk_X3_33 rfl (rfl : SH 0 = _) (ow_5 hLX) dX3_carryOutAct_73 ?_
      refine o_getI (u := ((s : Nat) : Int)) lk_X3_166 rfl (rfl : SH 24 = _) h5 dX3_carryOutAct_76 ?_
      refine v_aload_n 0 dX3_carryOutAct_79 rfl rfl ?_
      refine v_getR lk_X3_33 rfl (rfl : SH 0 = _) (ow_5 hLX) dX3_carryOutAct_80 ?_
      refine o_getI (u := (100)) lk_X3_163 rfl (rfl : SH 24 = _) h4 dX3_carryOutAct_83 ?_
      refine v_bipush dX3_carryOutAct_86 (by decide) ?_
      refine v_icmp_ne 95 dX3_carryOutAct_88 (by decide) (by omega) (by decide) (fun h88 => ?_) (fun h88 => ?_)
      · skip
        exact absurd rfl h88
      · skip
        refine v_iconst dX3_carryOutAct_91 ?_
        refine v_goto 96 dX3_carryOutAct_92 (by decide) ?_
        have hdl := sDrw_lt hI
        refine oSv3 (c_X3_with (Int.natCast_nonneg _) (by omega) (by omega) (by decide)) k0_X3_with ki_X3_with ml_X3_111 (vRo_of hxR (by decide) (by decide)) dX3_carryOutAct_96 (Nat.le_of_ble_eq_true rfl) ?_
        refine v_putI lp_X3_80 rfl rfl (st_o stB_1) dX3_carryOutAct_99 ?_
        refine v_goto 194 dX3_carryOutAct_102 (by decide) ?_
        refine o_ret hQ hlk hrt dX3_carryOutAct_194 ?_
        exact ⟨rfl, fz_up fz_rf (by omega) _ _, by rw [xE_100]; exact xs_udrw hX hI (by omega) 1⟩
  · skip
    obtain ⟨s, rfl⟩ : ∃ s : Nat, f = (s : Int) := ⟨f.toNat, by omega⟩
    refine v_lookup 48 dX3_carryOutAct_7 (by decide) (by decide) rfl (by decide) ?_
    refine v_aload_n 0 dX3_carryOutAct_48 rfl rfl ?_
    refine v_getR lk_X3_33 rfl (rfl : SH 0 = _) (ow_5 hLX) dX3_carryOutAct_49 ?_
    refine o_getI (u := ((s : Nat) : Int)) lk_X3_166 rfl (rfl : SH 24 = _) h5 dX3_carryOutAct_52 ?_
    refine oSv1 (c_X3_isStop (by omega)) k0_X3_isStop ki_X3_isStop ml_X3_47 (vRo_of hxR (by decide) (by decide)) dX3_carryOutAct_55 (Nat.le_of_ble_eq_true rfl) ?_
    refine v_if_eq 194 dX3_carryOutAct_58 (by decide) (bP_R _) (fun h58 => ?_) (fun h58 => ?_)
    · skip
      exact absurd (show 0 ≤ (s : Int) ∧ (s : Int) ≤ 7 by omega) (bP_0.mp h58)
    · skip
      refine v_aload_n 0 dX3_carryOutAct_61 rfl rfl ?_
      refine v_getR lk_X3_10 rfl (rfl : SH 0 = _) (ow_0 hLX) dX3_carryOutAct_62 ?_
      refine v_aload_n 0 dX3_carryOutAct_65 rfl rfl ?_
      refine v_getR lk_X3_10 rfl (rfl : SH 0 = _) (ow_0 hLX) dX3_carryOutAct_66 ?_
      refine o_getI (u := ((sDrw w : Nat) : Int)) lk_X3_80 rfl (st_o stB_1) (xs_drw hX) dX3_carryOutAct_69 ?_
      refine v_aload_n 0 dX3_carryOutAct_72 rfl rfl ?_
      refine v_getR lk_X3_33 rfl (rfl : SH 0 = _) (ow_5 hLX) dX3_carryOutAct_73 ?_
      refine o_getI (u := ((s : Nat) : Int)) lk_X3_166 rfl (rfl : SH 24 = _) h5 dX3_carryOutAct_76 ?_
      refine v_aload_n 0 dX3_carryOutAct_79 rfl rfl ?_
      refine v_getR lk_X3_33 rfl (rfl : SH 0 = _) (ow_5 hLX) dX3_carryOutAct_80 ?_
      refine o_getI (u := (114)) lk_X3_163 rfl (rfl : SH 24 = _) h4 dX3_carryOutAct_83 ?_
      refine v_bipush dX3_carryOutAct_86 (by decide) ?_
      refine v_icmp_ne 95 dX3_carryOutAct_88 (by decide) (by omega) (by decide) (fun h88 => ?_) (fun h88 => ?_)
      · skip
        refine v_iconst dX3_carryOutAct_95 ?_
        have hdl := sDrw_lt hI
        refine oSv3 (c_X3_with (Int.natCast_nonneg _) (by omega) (by omega) (by decide)) k0_X3_with ki_X3_with ml_X3_111 (vRo_of hxR (by decide) (by decide)) dX3_carryOutAct_96 (Nat.le_of_ble_eq_true rfl) ?_
        refine v_putI lp_X3_80 rfl rfl (st_o stB_1) dX3_carryOutAct_99 ?_
        refine v_goto 194 dX3_carryOutAct_102 (by decide) ?_
        refine o_ret hQ hlk hrt dX3_carryOutAct_194 ?_
        exact ⟨rfl, fz_up fz_rf (by omega) _ _, by rw [xE_114]; exact xs_udrw hX hI (by omega) 0⟩
      · skip
        exact absurd h88 (by decide)
  · skip
    obtain ⟨s, rfl⟩ : ∃ s : Nat, f = (s : Int) := ⟨f.toNat, by omega⟩
    obtain ⟨k, rfl⟩ : ∃ k : Nat, n = (k : Int) := ⟨n.toNat, by omega⟩
    refine v_lookup 105 dX3_carryOutAct_7 (by decide) (by decide) rfl (by decide) ?_
    refine v_aload_n 0 dX3_carryOutAct_105 rfl rfl ?_
    refine v_getR lk_X3_33 rfl (rfl : SH 0 = _) (ow_5 hLX) dX3_carryOutAct_106 ?_
    refine o_getI (u := ((s : Nat) : Int)) lk_X3_166 rfl (rfl : SH 24 = _) h5 dX3_carryOutAct_109 ?_
    refine oSv1 (c_X3_isManual (by omega)) k0_X3_isManual ki_X3_isManual ml_X3_52 (vRo_of hxR (by decide) (by decide)) dX3_carryOutAct_112 (Nat.le_of_ble_eq_true rfl) ?_
    refine v_if_eq 194 dX3_carryOutAct_115 (by decide) (bP_R _) (fun h115 => ?_) (fun h115 => ?_)
    · skip
      exact absurd (show 0 ≤ (s : Int) ∧ (s : Int) ≤ 1 by omega) (bP_0.mp h115)
    · skip
      refine v_aload_n 0 dX3_carryOutAct_118 rfl rfl ?_
      refine v_getR lk_X3_10 rfl (rfl : SH 0 = _) (ow_0 hLX) dX3_carryOutAct_119 ?_
      refine v_getR lk_X3_121 rfl (st_o stB_1) (hLX.1 1 stB_1 7 (by decide)) dX3_carryOutAct_122 ?_
      refine v_aload_n 0 dX3_carryOutAct_125 rfl rfl ?_
      refine v_getR lk_X3_33 rfl (rfl : SH 0 = _) (ow_5 hLX) dX3_carryOutAct_126 ?_
      refine o_getI (u := ((s : Nat) : Int)) lk_X3_166 rfl (rfl : SH 24 = _) h5 dX3_carryOutAct_129 ?_
      refine v_aload_n 0 dX3_carryOutAct_132 rfl rfl ?_
      refine v_getR lk_X3_10 rfl (rfl : SH 0 = _) (ow_0 hLX) dX3_carryOutAct_133 ?_
      refine v_getR lk_X3_121 rfl (st_o stB_1) (hLX.1 1 stB_1 7 (by decide)) dX3_carryOutAct_136 ?_
      refine v_aload_n 0 dX3_carryOutAct_139 rfl rfl ?_
      refine v_getR lk_X3_33 rfl (rfl : SH 0 = _) (ow_5 hLX) dX3_carryOutAct_140 ?_
      refine o_getI (u := ((s : Nat) : Int)) lk_X3_166 rfl (rfl : SH 24 = _) h5 dX3_carryOutAct_143 ?_
      refine o_iald (j := s) (u := (w (11 + s))) (st_a7 stB_1) (by omega) (by omega) (xs_pre hX (by omega)) dX3_carryOutAct_146 ?_
      refine v_aload_n 0 dX3_carryOutAct_147 rfl rfl ?_
      refine v_getR lk_X3_33 rfl (rfl : SH 0 = _) (ow_5 hLX) dX3_carryOutAct_148 ?_
      refine o_getI (u := ((k : Nat) : Int)) lk_X3_169 rfl (rfl : SH 24 = _) h6 dX3_carryOutAct_151 ?_
      refine v_aload_n 0 dX3_carryOutAct_154 rfl rfl ?_
      refine v_getR lk_X3_33 rfl (rfl : SH 0 = _) (ow_5 hLX) dX3_carryOutAct_155 ?_
      refine o_getI (u := (112)) lk_X3_163 rfl (rfl : SH 24 = _) h4 dX3_carryOutAct_158 ?_
      refine v_bipush dX3_carryOutAct_161 (by decide) ?_
      refine v_icmp_ne 170 dX3_carryOutAct_163 (by decide) (by omega) (by decide) (fun h163 => ?_) (fun h163 => ?_)
      · skip
        exact absurd rfl h163
      · skip
        refine v_iconst dX3_carryOutAct_166 ?_
        refine v_goto 171 dX3_carryOutAct_167 (by decide) ?_
        have hvb := pre_b hI (show s < 2 by omega)
        refine oSv3 (c_X3_with hvb.1 (by omega) (by omega) (by decide)) k0_X3_with ki_X3_with ml_X3_111 (vRo_of hxR (by decide) (by decide)) dX3_carryOutAct_171 (Nat.le_of_ble_eq_true rfl) ?_
        refine o_iast (j := s) (by omega) (st_a7 stB_1) (by omega) (by omega) dX3_carryOutAct_174 ?_
        refine v_goto 194 dX3_carryOutAct_175 (by decide) ?_
        refine o_ret hQ hlk hrt dX3_carryOutAct_194 ?_
        exact ⟨rfl, fz_up fz_rf (by omega) _ _, by rw [xE_112]; exact xs_upre hX (by omega) _⟩
  · skip
    obtain ⟨s, rfl⟩ : ∃ s : Nat, f = (s : Int) := ⟨f.toNat, by omega⟩
    obtain ⟨k, rfl⟩ : ∃ k : Nat, n = (k : Int) := ⟨n.toNat, by omega⟩
    refine v_lookup 105 dX3_carryOutAct_7 (by decide) (by decide) rfl (by decide) ?_
    refine v_aload_n 0 dX3_carryOutAct_105 rfl rfl ?_
    refine v_getR lk_X3_33 rfl (rfl : SH 0 = _) (ow_5 hLX) dX3_carryOutAct_106 ?_
    refine o_getI (u := ((s : Nat) : Int)) lk_X3_166 rfl (rfl : SH 24 = _) h5 dX3_carryOutAct_109 ?_
    refine oSv1 (c_X3_isManual (by omega)) k0_X3_isManual ki_X3_isManual ml_X3_52 (vRo_of hxR (by decide) (by decide)) dX3_carryOutAct_112 (Nat.le_of_ble_eq_true rfl) ?_
    refine v_if_eq 194 dX3_carryOutAct_115 (by decide) (bP_R _) (fun h115 => ?_) (fun h115 => ?_)
    · skip
      exact absurd (show 0 ≤ (s : Int) ∧ (s : Int) ≤ 1 by omega) (bP_0.mp h115)
    · skip
      refine v_aload_n 0 dX3_carryOutAct_118 rfl rfl ?_
      refine v_getR lk_X3_10 rfl (rfl : SH 0 = _) (ow_0 hLX) dX3_carryOutAct_119 ?_
      refine v_getR lk_X3_121 rfl (st_o stB_1) (hLX.1 1 stB_1 7 (by decide)) dX3_carryOutAct_122 ?_
      refine v_aload_n 0 dX3_carryOutAct_125 rfl rfl ?_
      refine v_getR lk_X3_33 rfl (rfl : SH 0 = _) (ow_5 hLX) dX3_carryOutAct_126 ?_
      refine o_getI (u := ((s : Nat) : Int)) lk_X3_166 rfl (rfl : SH 24 = _) h5 dX3_carryOutAct_129 ?_
      refine v_aload_n 0 dX3_carryOutAct_132 rfl rfl ?_
      refine v_getR lk_X3_10 rfl (rfl : SH 0 = _) (ow_0 hLX) dX3_carryOutAct_133 ?_
      refine v_getR lk_X3_121 rfl (st_o stB_1) (hLX.1 1 stB_1 7 (by decide)) dX3_carryOutAct_136 ?_
      refine v_aload_n 0 dX3_carryOutAct_139 rfl rfl ?_
      refine v_getR lk_X3_33 rfl (rfl : SH 0 = _) (ow_5 hLX) dX3_carryOutAct_140 ?_
      refine o_getI (u := ((s : Nat) : Int)) lk_X3_166 rfl (rfl : SH 24 = _) h5 dX3_carryOutAct_143 ?_
      refine o_iald (j := s) (u := (w (11 + s))) (st_a7 stB_1) (by omega) (by omega) (xs_pre hX (by omega)) dX3_carryOutAct_146 ?_
      refine v_aload_n 0 dX3_carryOutAct_147 rfl rfl ?_
      refine v_getR lk_X3_33 rfl (rfl : SH 0 = _) (ow_5 hLX) dX3_carryOutAct_148 ?_
      refine o_getI (u := ((k : Nat) : Int)) lk_X3_169 rfl (rfl : SH 24 = _) h6 dX3_carryOutAct_151 ?_
      refine v_aload_n 0 dX3_carryOutAct_154 rfl rfl ?_
      refine v_getR lk_X3_33 rfl (rfl : SH 0 = _) (ow_5 hLX) dX3_carryOutAct_155 ?_
      refine o_getI (u := (108)) lk_X3_163 rfl (rfl : SH 24 = _) h4 dX3_carryOutAct_158 ?_
      refine v_bipush dX3_carryOutAct_161 (by decide) ?_
      refine v_icmp_ne 170 dX3_carryOutAct_163 (by decide) (by omega) (by decide) (fun h163 => ?_) (fun h163 => ?_)
      · skip
        refine v_iconst dX3_carryOutAct_170 ?_
        have hvb := pre_b hI (show s < 2 by omega)
        refine oSv3 (c_X3_with hvb.1 (by omega) (by omega) (by decide)) k0_X3_with ki_X3_with ml_X3_111 (vRo_of hxR (by decide) (by decide)) dX3_carryOutAct_171 (Nat.le_of_ble_eq_true rfl) ?_
        refine o_iast (j := s) (by omega) (st_a7 stB_1) (by omega) (by omega) dX3_carryOutAct_174 ?_
        refine v_goto 194 dX3_carryOutAct_175 (by decide) ?_
        refine o_ret hQ hlk hrt dX3_carryOutAct_194 ?_
        exact ⟨rfl, fz_up fz_rf (by omega) _ _, by rw [xE_108]; exact xs_upre hX (by omega) _⟩
      · skip
        exact absurd h163 (by decide)
