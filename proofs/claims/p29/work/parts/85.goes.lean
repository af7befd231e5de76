/-! ===== the law's goes, searches, refuses (by program) ===== -/
theorem astr_0 (v : Sg) : aStrokes v 0 = v 18 := if_pos (by decide)
theorem astr_1 (v : Sg) : aStrokes v 1 = v 19 := if_pos (by decide)
theorem asr_0 (v : Sg) : aSearch v 0 = sSearch v 0 := a_search v 0 (by decide)
theorem asr_1 (v : Sg) : aSearch v 1 = sSearch v 1 := a_search v 1 (by decide)
theorem asr_2 (v : Sg) : aSearch v 2 = sSearch v 2 := a_search v 2 (by decide)
def jE (v : Sg) (N : Mem) : Prop := ∃ (r : Nat) (h : Nat → Nat) (ro : Nat → Sg) (ke : Nat → Int) (kr : Nat → Sg) (t : Nat) (L : Nat → Int), JX v r h ro ke kr t L N
set_option maxRecDepth 100000 in
set_option maxHeartbeats 2000000 in
theorem c_L_goes {l : Launch} {G : vGG} {M : Mem} {v : Sg} {r : Nat} {h : Nat → Nat} {ro : Nat → Sg} {ke : Nat → Int} {kr : Nat → Sg} {t : Nat} {L : Nat → Int} (hJ : JX v r h ro ke kr t L M) {n : Nat} (hI : wI n v) {q0 : Nat} (hq : 1 ≤ q0 ∧ q0 ≤ 60) : Co l yL_goes cL_goes 13 (some .boolean) (rmo 8 184) G [aR (some 0), aI (q0 : Int)] M (fun r0 N => r0 = some (aI 1) ∧ (jE (sTks v q0) N ∧ xfr M N)) := by
  refine Co.ofV (plainFor_of_name (by decide)) rfl rfl ?_
  intro x hxl hxR hlk hrt Q hQ
  have hF : xfr M M := xfr_rf
  have hT := wI_ticks hI q0
  have h17 := (iv_bel hT.1.1).2.1
  show vO x Q G cL_goes RL 0 [some (aR (some 0)), some (aI (q0 : Int)), none, none, none, none, none, none, none, none, none, none, none] [] M
  refine v_aload_n 0 dL_goes_0 rfl rfl ?_
  refine oVq0 3 (q_checksum hJ) k0_X3_checksum ki_X3_checksum ml_L_85 (rfl : SH 0 = _) (by decide) (vRo_of hxR (by decide) (by decide)) dL_goes_1 (Nat.le_of_ble_eq_true rfl) (fun N hN => ?_)
  have hJ := hN.1
  have hF := xfr_tr hF hN.2
  refine v_lst2 dL_goes_4 rfl ?_
  refine v_aload_n 0 dL_goes_5 rfl rfl ?_
  refine v_iconst dL_goes_6 ?_
  refine oVq1 3 (q_tell hJ (by decide)) k0_X3_tell ki_X3_tell ml_L_64 (rfl : SH 0 = _) (by decide) (vRo_of hxR (by decide) (by decide)) dL_goes_7 (Nat.le_of_ble_eq_true rfl) (fun N hN => ?_)
  have hJ := hN.1
  have hF := xfr_tr hF hN.2
  refine o_eqI (u := v 13) (at_2 v) ?_
  refine v_ist4 dL_goes_10 rfl ?_
  refine v_aload_n 0 dL_goes_12 rfl rfl ?_
  refine v_iload_n 1 dL_goes_13 rfl rfl ?_
  refine oVq1 3 (q_lowest hJ (by omega)) k0_X3_lowest ki_X3_lowest ml_L_89 (rfl : SH 0 = _) (by decide) (vRo_of hxR (by decide) (by decide)) dL_goes_14 (Nat.le_of_ble_eq_true rfl) (fun N hN => ?_)
  have hJ := hN.1
  have hF := xfr_tr hF hN.2
  refine o_eqI (u := sLw v q0) (by
      unfold aLow
      rw [if_pos (by omega), Int.toNat_natCast]) ?_
  refine v_ist5 dL_goes_17 rfl ?_
  refine v_aload_n 0 dL_goes_19 rfl rfl ?_
  refine oVq0 3 (q_checksum hJ) k0_X3_checksum ki_X3_checksum ml_L_85 (rfl : SH 0 = _) (by decide) (vRo_of hxR (by decide) (by decide)) dL_goes_20 (Nat.le_of_ble_eq_true rfl) (fun N hN => ?_)
  have hJ := hN.1
  have hF := xfr_tr hF hN.2
  refine v_lload_n 2 dL_goes_23 rfl rfl ?_
  refine v_lcmpS dL_goes_24 rfl ?_
  refine v_if_ne 42 dL_goes_25 (by decide) (by decide) (fun h25 => ?_) (fun h25 => ?_)
  · skip
    exact absurd h25 (by decide)
  · skip
    refine v_aload_n 0 dL_goes_28 rfl rfl ?_
    refine v_iconst dL_goes_29 ?_
    refine oVq1 3 (q_save hJ (by decide) (by decide)) k0_X3_save ki_X3_save ml_L_92 (rfl : SH 0 = _) (by decide) (vRo_of hxR (by decide) (by decide)) dL_goes_30 (Nat.le_of_ble_eq_true rfl) (fun N hN => ?_)
    obtain ⟨ke, kr, hJ⟩ : ∃ (ke2 : Nat → Int) (kr2 : Nat → Sg), JX v r h ro ke2 kr2 t L N := ⟨_, _, hN.1⟩
    have hF := xfr_tr hF hN.2
    refine v_iload dL_goes_33 rfl ?_
    refine v_icmp_neS dL_goes_35 42 (by decide) rfl ?_
    refine v_iconst dL_goes_38 ?_
    refine v_goto 43 dL_goes_39 (by decide) ?_
    refine v_ist6 dL_goes_43 rfl ?_
    refine v_aload_n 0 dL_goes_45 rfl rfl ?_
    refine v_iload_n 1 dL_goes_46 rfl rfl ?_
    refine oVq1 3 (q_tick hJ (by omega) (by omega)) k0_X3_tick ki_X3_tick ml_L_95 (rfl : SH 0 = _) (by decide) (vRo_of hxR (by decide) (by decide)) dL_goes_47 (Nat.le_of_ble_eq_true rfl) (fun N hN => ?_)
    rw [Int.toNat_natCast] at hN ⊢
    have hJ := hN.1
    have hF := xfr_tr hF hN.2
    refine v_ist7 dL_goes_50 rfl ?_
    refine v_aload_n 0 dL_goes_52 rfl rfl ?_
    refine oVq0 3 (q_checksum hJ) k0_X3_checksum ki_X3_checksum ml_L_85 (rfl : SH 0 = _) (by decide) (vRo_of hxR (by decide) (by decide)) dL_goes_53 (Nat.le_of_ble_eq_true rfl) (fun N hN => ?_)
    have hJ := hN.1
    have hF := xfr_tr hF hN.2
    refine v_lst8 dL_goes_56 rfl ?_
    refine v_iload dL_goes_58 rfl ?_
    refine v_if_eq 105 dL_goes_60 (by decide) (by decide) (fun h60 => ?_) (fun h60 => ?_)
    · skip
      exact absurd h60 (by decide)
    · skip
      refine v_iload dL_goes_63 rfl ?_
      refine v_aload_n 0 dL_goes_65 rfl rfl ?_
      refine v_iconst dL_goes_66 ?_
      refine oVq1 3 (q_tell hJ (by decide)) k0_X3_tell ki_X3_tell ml_L_64 (rfl : SH 0 = _) (by decide) (vRo_of hxR (by decide) (by decide)) dL_goes_67 (Nat.le_of_ble_eq_true rfl) (fun N hN => ?_)
      have hJ := hN.1
      have hF := xfr_tr hF hN.2
      refine o_eqI (u := sTks v q0 0) (at_0 _) ?_
      refine v_icmp_neS dL_goes_70 105 (by decide) rfl ?_
      refine v_aload_n 0 dL_goes_73 rfl rfl ?_
      refine v_iconst dL_goes_74 ?_
      refine oVq1 3 (q_tell hJ (by decide)) k0_X3_tell ki_X3_tell ml_L_64 (rfl : SH 0 = _) (by decide) (vRo_of hxR (by decide) (by decide)) dL_goes_75 (Nat.le_of_ble_eq_true rfl) (fun N hN => ?_)
      have hJ := hN.1
      have hF := xfr_tr hF hN.2
      refine o_eqI (u := v 13 + (q0 : Int)) ((at_2 _).trans hT.2) ?_
      refine v_iload dL_goes_78 rfl ?_
      refine v_iload_n 1 dL_goes_80 rfl rfl ?_
      refine v_iadd dL_goes_81 ?_
      refine v_icmp_neS dL_goes_82 105 (by decide) rfl ?_
      refine v_aload_n 0 dL_goes_85 rfl rfl ?_
      refine oVq0 3 (q_undo hJ) k0_X3_undo ki_X3_undo ml_L_98 (rfl : SH 0 = _) (by decide) (vRo_of hxR (by decide) (by decide)) dL_goes_86 (Nat.le_of_ble_eq_true rfl) (fun N hN => ?_)
      have hJ := hN.1
      rw [show rr r v ro (min r 4) = v from if_pos rfl] at hJ
      have hF := xfr_tr hF hN.2
      refine v_if_lt 105 dL_goes_89 (by decide) (by omega) (fun h89 => ?_) (fun h89 => ?_)
      · skip
        exact absurd h89 (by omega)
      · skip
        refine v_aload_n 0 dL_goes_92 rfl rfl ?_
        refine oVq0 3 (q_checksum hJ) k0_X3_checksum ki_X3_checksum ml_L_85 (rfl : SH 0 = _) (by decide) (vRo_of hxR (by decide) (by decide)) dL_goes_93 (Nat.le_of_ble_eq_true rfl) (fun N hN => ?_)
        have hJ := hN.1
        have hF := xfr_tr hF hN.2
        refine v_lload_n 2 dL_goes_96 rfl rfl ?_
        refine v_lcmpS dL_goes_97 rfl ?_
        refine v_if_ne 105 dL_goes_98 (by decide) (by decide) (fun h98 => ?_) (fun h98 => ?_)
        · skip
          exact absurd h98 (by decide)
        · skip
          refine v_iconst dL_goes_101 ?_
          refine v_goto 106 dL_goes_102 (by decide) ?_
          refine v_ist6 dL_goes_106 rfl ?_
          refine v_ldc (1000000) kc_L_101 (by decide) dL_goes_108 ?_
          refine v_ist10 dL_goes_110 rfl ?_
          refine v_iconst dL_goes_112 ?_
          refine v_ist11 dL_goes_113 rfl ?_
          have lp115 : ∀ (dd k : Nat) (K : Mem) (c12 : Option AV), k + dd = q0 → jE (sTks v k) K → xfr M K → vO x Q G cL_goes RL 115 [some (aR (some 0)), some (aI (q0 : Int)), some (aL (sSum v)), none, some (aI (v 13)), some (aI (sLw v q0)), some (aI 1), some (aI (sTks v q0 0)), some (aL (sSum (sTks v q0))), none, some (aI (sLw v k)), some (aI (k : Int)), c12] [] K := by
            intro dd
            induction dd with
            | zero =>
              intro k K c12 hd hE hF
              obtain rfl : k = q0 := by omega
              obtain ⟨r, h, ro, ke, kr, t, L, hJ⟩ := hE
              refine v_iload dL_goes_115 rfl ?_
              refine v_iload_n 1 dL_goes_117 rfl rfl ?_
              refine v_icmp_ge 155 dL_goes_118 (by decide) (by omega) (by omega) (fun h118 => ?_) (fun h118 => ?_)
              · skip
                refine v_iload dL_goes_155 rfl ?_
                refine v_if_eq 181 dL_goes_157 (by decide) (by decide) (fun h157 => ?_) (fun h157 => ?_)
                · skip
                  exact absurd h157 (by decide)
                · skip
                  refine v_iload dL_goes_160 rfl ?_
                  refine v_iload dL_goes_162 rfl ?_
                  refine v_icmp_neS dL_goes_164 181 (by decide) rfl ?_
                  refine v_aload_n 0 dL_goes_167 rfl rfl ?_
                  refine oVq0 3 (q_checksum hJ) k0_X3_checksum ki_X3_checksum ml_L_85 (rfl : SH 0 = _) (by decide) (vRo_of hxR (by decide) (by decide)) dL_goes_168 (Nat.le_of_ble_eq_true rfl) (fun N hN => ?_)
                  have hJ := hN.1
                  have hF := xfr_tr hF hN.2
                  refine v_lload dL_goes_171 rfl ?_
                  refine v_lcmpS dL_goes_173 rfl ?_
                  refine v_if_ne 181 dL_goes_174 (by decide) (by decide) (fun h174 => ?_) (fun h174 => ?_)
                  · skip
                    exact absurd h174 (by decide)
                  · skip
                    refine v_iconst dL_goes_177 ?_
                    refine v_goto 182 dL_goes_178 (by decide) ?_
                    refine v_ist6 dL_goes_182 rfl ?_
                    refine v_iload dL_goes_184 rfl ?_
                    refine v_if_eq 222 dL_goes_186 (by decide) (by decide) (fun h186 => ?_) (fun h186 => ?_)
                    · skip
                      exact absurd h186 (by decide)
                    · skip
                      refine v_aload_n 0 dL_goes_189 rfl rfl ?_
                      refine v_iconst dL_goes_190 ?_
                      refine oVv1 3 (q_strokes hJ (by decide)) k0_X3_strokes ki_X3_strokes ml_L_102 (rfl : SH 0 = _) (by decide) (vRo_of hxR (by decide) (by decide)) dL_goes_191 (Nat.le_of_ble_eq_true rfl) ?_
                      refine o_eqI (u := sTks v k 18) (astr_0 _) ?_
                      refine v_aload_n 0 dL_goes_194 rfl rfl ?_
                      refine v_iconst dL_goes_195 ?_
                      refine oVv1 3 (q_strokes hJ (by decide)) k0_X3_strokes ki_X3_strokes ml_L_102 (rfl : SH 0 = _) (by decide) (vRo_of hxR (by decide) (by decide)) dL_goes_196 (Nat.le_of_ble_eq_true rfl) ?_
                      refine o_eqI (u := sTks v k 19) (astr_1 _) ?_
                      refine v_isub dL_goes_199 ?_
                      refine o_eqI (u := sTks v k 17) (hT.1.2.2.2.2.2) ?_
                      refine v_if_lt 222 dL_goes_200 (by decide) (by omega) (fun h200 => ?_) (fun h200 => ?_)
                      · skip
                        exact absurd h200 (by omega)
                      · skip
                        refine v_aload_n 0 dL_goes_203 rfl rfl ?_
                        refine v_iconst dL_goes_204 ?_
                        refine oVv1 3 (q_strokes hJ (by decide)) k0_X3_strokes ki_X3_strokes ml_L_102 (rfl : SH 0 = _) (by decide) (vRo_of hxR (by decide) (by decide)) dL_goes_205 (Nat.le_of_ble_eq_true rfl) ?_
                        refine o_eqI (u := sTks v k 18) (astr_0 _) ?_
                        refine v_aload_n 0 dL_goes_208 rfl rfl ?_
                        refine v_iconst dL_goes_209 ?_
                        refine oVv1 3 (q_strokes hJ (by decide)) k0_X3_strokes ki_X3_strokes ml_L_102 (rfl : SH 0 = _) (by decide) (vRo_of hxR (by decide) (by decide)) dL_goes_210 (Nat.le_of_ble_eq_true rfl) ?_
                        refine o_eqI (u := sTks v k 19) (astr_1 _) ?_
                        refine v_isub dL_goes_213 ?_
                        refine o_eqI (u := sTks v k 17) (hT.1.2.2.2.2.2) ?_
                        refine v_iconst dL_goes_214 ?_
                        refine v_icmp_gt 222 dL_goes_215 (by decide) (by omega) (by decide) (fun h215 => ?_) (fun h215 => ?_)
                        · skip
                          exact absurd h215 (by omega)
                        · skip
                          refine v_iconst dL_goes_218 ?_
                          refine v_goto 223 dL_goes_219 (by decide) ?_
                          refine o_zret hQ hlk hrt (.inr rfl) dL_goes_223 ?_
                          exact ⟨rfl, ⟨_, _, _, _, _, _, _, hJ⟩, hF⟩
              · skip
                exact absurd h118 (by omega)
            | succ dd ih =>
              intro k K c12 hd hE hF
              obtain ⟨r, h, ro, ke, kr, t, L, hJ⟩ := hE
              refine v_iload dL_goes_115 rfl ?_
              refine v_iload_n 1 dL_goes_117 rfl rfl ?_
              refine v_icmp_ge 155 dL_goes_118 (by decide) (by omega) (by omega) (fun h118 => ?_) (fun h118 => ?_)
              · skip
                exact absurd h118 (by omega)
              · skip
                refine v_iload dL_goes_121 rfl ?_
                refine v_if_eq 155 dL_goes_123 (by decide) (by decide) (fun h123 => ?_) (fun h123 => ?_)
                · skip
                  exact absurd h123 (by decide)
                · skip
                  refine v_aload_n 0 dL_goes_126 rfl rfl ?_
                  refine v_iconst dL_goes_127 ?_
                  refine oVq1 3 (q_tick hJ (by decide) (by decide)) k0_X3_tick ki_X3_tick ml_L_95 (rfl : SH 0 = _) (by decide) (vRo_of hxR (by decide) (by decide)) dL_goes_128 (Nat.le_of_ble_eq_true rfl) (fun N hN => ?_)
                  have hJ := hN.1
                  have hF := xfr_tr hF hN.2
                  refine o_eqI (u := sTks v (k + 1) 0) rfl ?_
                  have hJ : JX (sTks v (k + 1)) (min r 4 + 1) (xh r h) (rr r (sTks v k) ro) ke kr t L N := hJ
                  have hv0 := sTks_v0 hI.1 (k + 1)
                  have hlR := sLw_R hI.1 k
                  refine v_ist12 dL_goes_131 rfl ?_
                  refine v_iload dL_goes_133 rfl ?_
                  refine v_iload dL_goes_135 rfl ?_
                  refine v_icmp_ge 145 dL_goes_137 (by decide) (by omega) hlR (fun h137 => ?_) (fun h137 => ?_)
                  · skip
                    refine v_iload dL_goes_145 rfl ?_
                    refine o_eqI (u := sLw v (k + 1)) (by rw [sLw]; omega) ?_
                    refine v_ist10 dL_goes_147 rfl ?_
                    refine v_iinc11 dL_goes_149 rfl ?_
                    refine v_goto 115 dL_goes_152 (by decide) ?_
                    exact ih (k + 1) _ _ (by omega) ⟨_, _, _, _, _, _, _, hJ⟩ hF
                  · skip
                    refine v_iload dL_goes_140 rfl ?_
                    refine v_goto 147 dL_goes_142 (by decide) ?_
                    refine o_eqI (u := sLw v (k + 1)) (by rw [sLw]; omega) ?_
                    refine v_ist10 dL_goes_147 rfl ?_
                    refine v_iinc11 dL_goes_149 rfl ?_
                    refine v_goto 115 dL_goes_152 (by decide) ?_
                    exact ih (k + 1) _ _ (by omega) ⟨_, _, _, _, _, _, _, hJ⟩ hF
          exact lp115 q0 0 _ _ (by omega) ⟨_, _, _, _, _, _, _, hJ⟩ hF
set_option maxRecDepth 100000 in
set_option maxHeartbeats 1000000 in
theorem c_L_searches {l : Launch} {G : vGG} {M : Mem} {v : Sg} {r : Nat} {h : Nat → Nat} {ro : Nat → Sg} {ke : Nat → Int} {kr : Nat → Sg} {t : Nat} {L : Nat → Int} (hJ : JX v r h ro ke kr t L M) : Co l yL_searches cL_searches 3 (some .boolean) (rmo 8 181) G [aR (some 0)] M (fun r0 N => r0 = some (aI 1) ∧ (JX v r h ro ke kr t L N ∧ xfr M N)) := by
  refine Co.ofV (plainFor_of_name (by decide)) rfl rfl ?_
  intro x hxl hxR hlk hrt Q hQ
  have hF : xfr M M := xfr_rf
  have hS := hJ.inv
  show vO x Q G cL_searches RL 0 [some (aR (some 0)), none, none] [] M
  refine v_aload_n 0 dL_searches_0 rfl rfl ?_
  refine v_iconst dL_searches_1 ?_
  refine oVq1 3 (q_search hJ (by decide)) k0_X3_search ki_X3_search ml_L_105 (rfl : SH 0 = _) (by decide) (vRo_of hxR (by decide) (by decide)) dL_searches_2 (Nat.le_of_ble_eq_true rfl) (fun N hN => ?_)
  have hJ := hN.1
  have hF := xfr_tr hF hN.2
  refine o_eqI (u := sSearch v 0) (asr_0 v) ?_
  refine v_ist1 dL_searches_5 rfl ?_
  refine v_aload_n 0 dL_searches_6 rfl rfl ?_
  refine v_iconst dL_searches_7 ?_
  refine oVq1 3 (q_search hJ (by decide)) k0_X3_search ki_X3_search ml_L_105 (rfl : SH 0 = _) (by decide) (vRo_of hxR (by decide) (by decide)) dL_searches_8 (Nat.le_of_ble_eq_true rfl) (fun N hN => ?_)
  have hJ := hN.1
  have hF := xfr_tr hF hN.2
  refine o_eqI (u := sSearch v 1) (asr_1 v) ?_
  refine v_ist2 dL_searches_11 rfl ?_
  rcases search_cases hS with ⟨e0, e1, e2⟩ | ⟨e0, e1, e2, e3⟩
  · skip
    rw [e0, e1]
    refine v_iload_n 1 dL_searches_12 rfl rfl ?_
    refine v_ldc (-1000005) kc_L_77 (by decide) dL_searches_13 ?_
    refine v_icmp_ne 41 dL_searches_15 (by decide) (by decide) (by decide) (fun h15 => ?_) (fun h15 => ?_)
    · skip
      exact absurd h15 (by decide)
    · skip
      refine v_iload_n 2 dL_searches_18 rfl rfl ?_
      refine v_iconst dL_searches_19 ?_
      refine v_icmp_ne 37 dL_searches_20 (by decide) (by decide) (by decide) (fun h20 => ?_) (fun h20 => ?_)
      · skip
        exact absurd h20 (by decide)
      · skip
        refine v_aload_n 0 dL_searches_23 rfl rfl ?_
        refine v_iconst dL_searches_24 ?_
        refine oVq1 3 (q_search hJ (by decide)) k0_X3_search ki_X3_search ml_L_105 (rfl : SH 0 = _) (by decide) (vRo_of hxR (by decide) (by decide)) dL_searches_25 (Nat.le_of_ble_eq_true rfl) (fun N hN => ?_)
        have hJ := hN.1
        have hF := xfr_tr hF hN.2
        refine o_eqI (u := -1000005) ((asr_2 v).trans e2) ?_
        refine v_ldc (-1000005) kc_L_77 (by decide) dL_searches_28 ?_
        refine v_icmp_ne 37 dL_searches_30 (by decide) (by decide) (by decide) (fun h30 => ?_) (fun h30 => ?_)
        · skip
          exact absurd h30 (by decide)
        · skip
          refine v_iconst dL_searches_33 ?_
          refine v_goto 70 dL_searches_34 (by decide) ?_
          refine o_zret hQ hlk hrt (.inr rfl) dL_searches_70 ?_
          exact ⟨rfl, hJ, hF⟩
  · skip
    rw [e2]
    refine v_iload_n 1 dL_searches_12 rfl rfl ?_
    refine v_ldc (-1000005) kc_L_77 (by decide) dL_searches_13 ?_
    refine v_icmp_ne 41 dL_searches_15 (by decide) (by omega) (by decide) (fun h15 => ?_) (fun h15 => ?_)
    · skip
      refine v_iload_n 1 dL_searches_41 rfl rfl ?_
      refine v_if_lt 69 dL_searches_42 (by decide) (by omega) (fun h42 => ?_) (fun h42 => ?_)
      · skip
        exact absurd h42 (by omega)
      · skip
        refine v_iload_n 1 dL_searches_45 rfl rfl ?_
        refine v_bipush dL_searches_46 (by decide) ?_
        refine v_icmp_ge 69 dL_searches_48 (by decide) (by omega) (by decide) (fun h48 => ?_) (fun h48 => ?_)
        · skip
          exact absurd h48 (by omega)
        · skip
          refine v_iload_n 2 dL_searches_51 rfl rfl ?_
          refine v_iconst dL_searches_52 ?_
          refine v_icmp_ne 69 dL_searches_53 (by decide) (by decide) (by decide) (fun h53 => ?_) (fun h53 => ?_)
          · skip
            exact absurd h53 (by decide)
          · skip
            refine v_aload_n 0 dL_searches_56 rfl rfl ?_
            refine v_bipush dL_searches_57 (by decide) ?_
            refine oVq1 3 (q_tell hJ (by decide)) k0_X3_tell ki_X3_tell ml_L_64 (rfl : SH 0 = _) (by decide) (vRo_of hxR (by decide) (by decide)) dL_searches_59 (Nat.le_of_ble_eq_true rfl) (fun N hN => ?_)
            have hJ := hN.1
            have hF := xfr_tr hF hN.2
            refine o_eqI (u := ((sCi v 8 : Nat) : Int)) (at_8 v) ?_
            refine v_if_le 69 dL_searches_62 (by decide) (by have := iv_ci hS; omega) (fun h62 => ?_) (fun h62 => ?_)
            · skip
              exact absurd h62 (by omega)
            · skip
              refine v_iconst dL_searches_65 ?_
              refine v_goto 70 dL_searches_66 (by decide) ?_
              refine o_zret hQ hlk hrt (.inr rfl) dL_searches_70 ?_
              exact ⟨rfl, hJ, hF⟩
    · skip
      exact absurd h15 (by omega)
set_option maxRecDepth 100000 in
set_option maxHeartbeats 1000000 in
theorem c_L_refuses {l : Launch} {G : vGG} {M : Mem} {v : Sg} {r : Nat} {h : Nat → Nat} {ro : Nat → Sg} {ke : Nat → Int} {kr : Nat → Sg} {t : Nat} {L : Nat → Int} (hJ : JX v r h ro ke kr t L M) : Co l yL_refuses cL_refuses 4 (some .boolean) (rmo 8 184) G [aR (some 0)] M (fun r0 N => r0 = some (aI 1) ∧ (JX v r h ro ke kr t L N ∧ xfr M N)) := by
  refine Co.ofV (plainFor_of_name (by decide)) rfl rfl ?_
  intro x hxl hxR hlk hrt Q hQ
  have hF : xfr M M := xfr_rf
  show vO x Q G cL_refuses RL 0 [some (aR (some 0)), none, none, none] [] M
  refine v_aload_n 0 dL_refuses_0 rfl rfl ?_
  refine oVq0 3 (q_checksum hJ) k0_X3_checksum ki_X3_checksum ml_L_85 (rfl : SH 0 = _) (by decide) (vRo_of hxR (by decide) (by decide)) dL_refuses_1 (Nat.le_of_ble_eq_true rfl) (fun N hN => ?_)
  have hJ := hN.1
  have hF := xfr_tr hF hN.2
  refine v_lst1 dL_refuses_4 rfl ?_
  refine v_aload_n 0 dL_refuses_5 rfl rfl ?_
  refine v_iconst dL_refuses_6 ?_
  refine v_iconst dL_refuses_7 ?_
  refine v_iconst dL_refuses_8 ?_
  refine v_iconst dL_refuses_9 ?_
  refine oVv4 3 (n_layOut hJ (by decide) (by decide) (by decide) (by decide) (fun g => absurd g.1 (by decide))) k0_X3_layOut ki_X3_layOut ml_L_33 (rfl : SH 0 = _) (by decide) (vRo_of hxR (by decide) (by decide)) dL_refuses_10 (Nat.le_of_ble_eq_true rfl) ?_
  refine v_ldc (-1000001) kc_L_32 (by decide) dL_refuses_13 ?_
  refine v_icmp_neS dL_refuses_15 144 (by decide) (by unfold eSt; rw [if_neg (by decide)]) ?_
  refine v_aload_n 0 dL_refuses_18 rfl rfl ?_
  refine v_iconst dL_refuses_19 ?_
  refine v_iconst dL_refuses_20 ?_
  refine v_bipush dL_refuses_21 (by decide) ?_
  refine v_iconst dL_refuses_23 ?_
  refine oVv4 3 (n_layOut hJ (by decide) (by decide) (by decide) (by decide) (fun g => absurd g.2.2.1 (by decide))) k0_X3_layOut ki_X3_layOut ml_L_33 (rfl : SH 0 = _) (by decide) (vRo_of hxR (by decide) (by decide)) dL_refuses_24 (Nat.le_of_ble_eq_true rfl) ?_
  refine v_ldc (-1000002) kc_L_31 (by decide) dL_refuses_27 ?_
  refine v_icmp_neS dL_refuses_29 144 (by decide) (by unfold eSt; rw [if_pos (by decide)]) ?_
  refine v_aload_n 0 dL_refuses_32 rfl rfl ?_
  refine v_iconst dL_refuses_33 ?_
  refine v_iconst dL_refuses_34 ?_
  refine v_iconst dL_refuses_35 ?_
  refine v_sipush dL_refuses_36 (by decide) ?_
  refine oVv4 3 (n_layOut hJ (by decide) (by decide) (by decide) (by decide) (fun g => absurd g.2.2.2 (by decide))) k0_X3_layOut ki_X3_layOut ml_L_33 (rfl : SH 0 = _) (by decide) (vRo_of hxR (by decide) (by decide)) dL_refuses_39 (Nat.le_of_ble_eq_true rfl) ?_
  refine v_ldc (-1000002) kc_L_31 (by decide) dL_refuses_42 ?_
  refine v_icmp_neS dL_refuses_44 144 (by decide) (by unfold eSt; rw [if_pos (by decide)]) ?_
  refine v_aload_n 0 dL_refuses_47 rfl rfl ?_
  refine v_bipush dL_refuses_48 (by decide) ?_
  refine v_iconst dL_refuses_50 ?_
  refine oVv2 3 (q_stop hJ (by decide) (by decide)) k0_X3_stop ki_X3_stop ml_L_67 (rfl : SH 0 = _) (by decide) (vRo_of hxR (by decide) (by decide)) dL_refuses_51 (Nat.le_of_ble_eq_true rfl) ?_
  refine v_ldc (-1000001) kc_L_32 (by decide) dL_refuses_54 ?_
  refine v_icmp_neS dL_refuses_56 144 (by decide) (by unfold aStop; rw [if_neg (by decide)]) ?_
  refine v_aload_n 0 dL_refuses_59 rfl rfl ?_
  refine v_iconst dL_refuses_60 ?_
  refine v_iconst dL_refuses_61 ?_
  refine oVv2 3 (q_stop hJ (by decide) (by decide)) k0_X3_stop ki_X3_stop ml_L_67 (rfl : SH 0 = _) (by decide) (vRo_of hxR (by decide) (by decide)) dL_refuses_62 (Nat.le_of_ble_eq_true rfl) ?_
  refine v_ldc (-1000002) kc_L_31 (by decide) dL_refuses_65 ?_
  refine v_icmp_neS dL_refuses_67 144 (by decide) (by unfold aStop; rw [if_pos (by decide), if_neg (by decide)]) ?_
  refine v_aload_n 0 dL_refuses_70 rfl rfl ?_
  refine v_iconst dL_refuses_71 ?_
  refine v_iconst dL_refuses_72 ?_
  refine oVv2 3 (n_set hJ (by decide) (by decide) (fun g => absurd g.1 (by decide))) k0_X3_set ki_X3_set ml_L_25 (rfl : SH 0 = _) (by decide) (vRo_of hxR (by decide) (by decide)) dL_refuses_73 (Nat.le_of_ble_eq_true rfl) ?_
  refine v_ldc (-1000001) kc_L_32 (by decide) dL_refuses_76 ?_
  refine v_icmp_neS dL_refuses_78 144 (by decide) (by unfold eSet; rw [if_neg (by decide)]) ?_
  refine v_aload_n 0 dL_refuses_81 rfl rfl ?_
  refine v_iconst dL_refuses_82 ?_
  refine v_bipush dL_refuses_83 (by decide) ?_
  refine oVv2 3 (n_set hJ (by decide) (by decide) (fun g => absurd g.2 (by decide))) k0_X3_set ki_X3_set ml_L_25 (rfl : SH 0 = _) (by decide) (vRo_of hxR (by decide) (by decide)) dL_refuses_85 (Nat.le_of_ble_eq_true rfl) ?_
  refine v_ldc (-1000002) kc_L_31 (by decide) dL_refuses_88 ?_
  refine v_icmp_neS dL_refuses_90 144 (by decide) (by unfold eSet; rw [if_pos (by decide)]) ?_
  refine v_aload_n 0 dL_refuses_93 rfl rfl ?_
  refine v_bipush dL_refuses_94 (by decide) ?_
  refine v_iconst dL_refuses_96 ?_
  refine v_iconst dL_refuses_97 ?_
  refine oVv3 3 (n_cipher hJ (by decide) (by decide) (by decide) (fun g => absurd g.1.1 (by decide))) k0_X3_cipher ki_X3_cipher ml_L_52 (rfl : SH 0 = _) (by decide) (vRo_of hxR (by decide) (by decide)) dL_refuses_98 (Nat.le_of_ble_eq_true rfl) ?_
  refine v_ldc (-1000001) kc_L_32 (by decide) dL_refuses_101 ?_
  refine v_icmp_neS dL_refuses_103 144 (by decide) (by unfold eSK; rw [if_neg (fun g => absurd g.1 (by decide))]) ?_
  refine v_aload_n 0 dL_refuses_106 rfl rfl ?_
  refine v_bipush dL_refuses_107 (by decide) ?_
  refine v_iconst dL_refuses_109 ?_
  refine oVv2 3 (n_draw hJ (by decide) (by decide) (by decide)) k0_X3_draw ki_X3_draw ml_L_37 (rfl : SH 0 = _) (by decide) (vRo_of hxR (by decide) (by decide)) dL_refuses_110 (Nat.le_of_ble_eq_true rfl) ?_
  refine v_ldc (-1000001) kc_L_32 (by decide) dL_refuses_113 ?_
  refine v_icmp_neS dL_refuses_115 144 (by decide) rfl ?_
  refine v_aload_n 0 dL_refuses_118 rfl rfl ?_
  refine v_iconst dL_refuses_119 ?_
  refine v_iconst dL_refuses_120 ?_
  refine v_iconst dL_refuses_121 ?_
  refine oVv3 3 (n_press hJ (by decide) (by decide) (by decide) (fun g => absurd g.1 (by decide))) k0_X3_press ki_X3_press ml_L_57 (rfl : SH 0 = _) (by decide) (vRo_of hxR (by decide) (by decide)) dL_refuses_122 (Nat.le_of_ble_eq_true rfl) ?_
  refine v_ldc (-1000001) kc_L_32 (by decide) dL_refuses_125 ?_
  refine v_icmp_neS dL_refuses_127 144 (by decide) rfl ?_
  refine v_aload_n 0 dL_refuses_130 rfl rfl ?_
  refine v_iconst dL_refuses_131 ?_
  refine oVv1 3 (n_tick hJ (by decide) (by decide)) k0_X3_tick ki_X3_tick ml_L_95 (rfl : SH 0 = _) (by decide) (vRo_of hxR (by decide) (by decide)) dL_refuses_132 (Nat.le_of_ble_eq_true rfl) ?_
  refine v_ldc (-1000002) kc_L_31 (by decide) dL_refuses_135 ?_
  refine v_icmp_neS dL_refuses_137 144 (by decide) rfl ?_
  refine v_iconst dL_refuses_140 ?_
  refine v_goto 145 dL_refuses_141 (by decide) ?_
  refine v_ist3 dL_refuses_145 rfl ?_
  refine v_iload_n 3 dL_refuses_146 rfl rfl ?_
  refine v_if_eq 315 dL_refuses_147 (by decide) (by decide) (fun h147 => ?_) (fun h147 => ?_)
  · skip
    exact absurd h147 (by decide)
  · skip
    refine v_aload_n 0 dL_refuses_150 rfl rfl ?_
    refine v_iconst dL_refuses_151 ?_
    refine oVv1 3 (n_append hJ (by decide) (by decide)) k0_X3_append ki_X3_append ml_L_108 (rfl : SH 0 = _) (by decide) (vRo_of hxR (by decide) (by decide)) dL_refuses_152 (Nat.le_of_ble_eq_true rfl) ?_
    refine v_ldc (-1000002) kc_L_31 (by decide) dL_refuses_155 ?_
    refine v_icmp_neS dL_refuses_157 315 (by decide) rfl ?_
    refine v_aload_n 0 dL_refuses_160 rfl rfl ?_
    refine v_iconst dL_refuses_161 ?_
    refine oVq1 3 (q_tell hJ (by decide)) k0_X3_tell ki_X3_tell ml_L_64 (rfl : SH 0 = _) (by decide) (vRo_of hxR (by decide) (by decide)) dL_refuses_162 (Nat.le_of_ble_eq_true rfl) (fun N hN => ?_)
    have hJ := hN.1
    have hF := xfr_tr hF hN.2
    refine v_ldc (-1000001) kc_L_32 (by decide) dL_refuses_165 ?_
    refine v_icmp_neS dL_refuses_167 315 (by decide) (by unfold aTell; rw [if_neg (by decide)]) ?_
    refine v_aload_n 0 dL_refuses_170 rfl rfl ?_
    refine v_iconst dL_refuses_171 ?_
    refine v_iconst dL_refuses_172 ?_
    refine oVq2 3 (q_chest hJ (by decide) (by decide)) k0_X3_chest ki_X3_chest ml_L_78 (rfl : SH 0 = _) (by decide) (vRo_of hxR (by decide) (by decide)) dL_refuses_173 (Nat.le_of_ble_eq_true rfl) (fun N hN => ?_)
    have hJ := hN.1
    have hF := xfr_tr hF hN.2
    refine v_ldc (-1000001) kc_L_32 (by decide) dL_refuses_176 ?_
    refine v_icmp_neS dL_refuses_178 315 (by decide) (by unfold aChest; rw [if_neg (by decide)]) ?_
    refine v_aload_n 0 dL_refuses_181 rfl rfl ?_
    refine v_iconst dL_refuses_182 ?_
    refine v_iconst dL_refuses_183 ?_
    refine oVq2 3 (q_chest hJ (by decide) (by decide)) k0_X3_chest ki_X3_chest ml_L_78 (rfl : SH 0 = _) (by decide) (vRo_of hxR (by decide) (by decide)) dL_refuses_184 (Nat.le_of_ble_eq_true rfl) (fun N hN => ?_)
    have hJ := hN.1
    have hF := xfr_tr hF hN.2
    refine v_ldc (-1000002) kc_L_31 (by decide) dL_refuses_187 ?_
    refine v_icmp_neS dL_refuses_189 315 (by decide) (by unfold aChest; rw [if_pos (by decide), if_neg (by decide)]) ?_
    refine v_aload_n 0 dL_refuses_192 rfl rfl ?_
    refine v_iconst dL_refuses_193 ?_
    refine oVv1 3 (q_strokes hJ (by decide)) k0_X3_strokes ki_X3_strokes ml_L_102 (rfl : SH 0 = _) (by decide) (vRo_of hxR (by decide) (by decide)) dL_refuses_194 (Nat.le_of_ble_eq_true rfl) ?_
    refine v_ldc (-1000001) kc_L_32 (by decide) dL_refuses_197 ?_
    refine v_icmp_neS dL_refuses_199 315 (by decide) (by unfold aStrokes; rw [if_neg (by decide)]) ?_
    refine v_aload_n 0 dL_refuses_202 rfl rfl ?_
    refine v_iconst dL_refuses_203 ?_
    refine v_iconst dL_refuses_204 ?_
    refine v_iconst dL_refuses_205 ?_
    refine oVq3 3 (q_pipe hJ (by decide) (by decide) (by decide)) k0_X3_pipe ki_X3_pipe ml_L_73 (rfl : SH 0 = _) (by decide) (vRo_of hxR (by decide) (by decide)) dL_refuses_206 (Nat.le_of_ble_eq_true rfl) (fun N hN => ?_)
    have hJ := hN.1
    have hF := xfr_tr hF hN.2
    refine v_ldc (-1000001) kc_L_32 (by decide) dL_refuses_209 ?_
    refine v_icmp_neS dL_refuses_211 315 (by decide) (by unfold aPipe; rw [if_pos (by decide), if_neg (by decide)]) ?_
    refine v_aload_n 0 dL_refuses_214 rfl rfl ?_
    refine v_iconst dL_refuses_215 ?_
    refine v_iconst dL_refuses_216 ?_
    refine v_iconst dL_refuses_217 ?_
    refine oVq3 3 (q_pipe hJ (by decide) (by decide) (by decide)) k0_X3_pipe ki_X3_pipe ml_L_73 (rfl : SH 0 = _) (by decide) (vRo_of hxR (by decide) (by decide)) dL_refuses_218 (Nat.le_of_ble_eq_true rfl) (fun N hN => ?_)
    have hJ := hN.1
    have hF := xfr_tr hF hN.2
    refine v_ldc (-1000002) kc_L_31 (by decide) dL_refuses_221 ?_
    refine v_icmp_neS dL_refuses_223 315 (by decide) (by unfold aPipe; rw [if_pos (by decide), if_pos (by decide), if_neg (by decide)]) ?_
    refine v_aload_n 0 dL_refuses_226 rfl rfl ?_
    refine v_iconst dL_refuses_227 ?_
    refine v_bipush dL_refuses_228 (by decide) ?_
    refine oVq2 3 (q_reason hJ (by decide) (by decide)) k0_X3_reason ki_X3_reason ml_L_70 (rfl : SH 0 = _) (by decide) (vRo_of hxR (by decide) (by decide)) dL_refuses_230 (Nat.le_of_ble_eq_true rfl) (fun N hN => ?_)
    have hJ := hN.1
    have hF := xfr_tr hF hN.2
    refine v_ldc (-1000001) kc_L_32 (by decide) dL_refuses_233 ?_
    refine v_icmp_neS dL_refuses_235 315 (by decide) (by unfold aReason; rw [if_pos (by decide), if_neg (by decide)]) ?_
    refine v_aload_n 0 dL_refuses_238 rfl rfl ?_
    refine v_iconst dL_refuses_239 ?_
    refine v_iconst dL_refuses_240 ?_
    refine oVq2 3 (n_tune hJ (by decide) (by decide) (fun g => absurd g.1.2 (by decide))) k0_X3_tune ki_X3_tune ml_L_111 (rfl : SH 0 = _) (by decide) (vRo_of hxR (by decide) (by decide)) dL_refuses_241 (Nat.le_of_ble_eq_true rfl) (fun N hN => ?_)
    have hJ := hN.1
    have hF := xfr_tr hF hN.2
    refine v_ldc (-1000001) kc_L_32 (by decide) dL_refuses_244 ?_
    refine v_icmp_neS dL_refuses_246 315 (by decide) (by unfold eSK; rw [if_neg (fun g => absurd g.2 (by decide))]) ?_
    refine v_aload_n 0 dL_refuses_249 rfl rfl ?_
    refine v_iconst dL_refuses_250 ?_
    refine oVq1 3 (q_search hJ (by decide)) k0_X3_search ki_X3_search ml_L_105 (rfl : SH 0 = _) (by decide) (vRo_of hxR (by decide) (by decide)) dL_refuses_251 (Nat.le_of_ble_eq_true rfl) (fun N hN => ?_)
    have hJ := hN.1
    have hF := xfr_tr hF hN.2
    refine v_ldc (-1000001) kc_L_32 (by decide) dL_refuses_254 ?_
    refine v_icmp_neS dL_refuses_256 315 (by decide) (by unfold aSearch; rw [if_neg (by decide)]) ?_
    refine v_aload_n 0 dL_refuses_259 rfl rfl ?_
    refine v_iconst dL_refuses_260 ?_
    refine oVq1 3 (q_robbed hJ (by decide)) k0_X3_robbed ki_X3_robbed ml_L_114 (rfl : SH 0 = _) (by decide) (vRo_of hxR (by decide) (by decide)) dL_refuses_261 (Nat.le_of_ble_eq_true rfl) (fun N hN => ?_)
    have hJ := hN.1
    have hF := xfr_tr hF hN.2
    refine v_ldc (-1000001) kc_L_32 (by decide) dL_refuses_264 ?_
    refine v_icmp_neS dL_refuses_266 315 (by decide) (by unfold aRob; rw [if_neg (by decide)]) ?_
    refine v_aload_n 0 dL_refuses_269 rfl rfl ?_
    refine v_iconst dL_refuses_270 ?_
    refine oVq1 3 (q_lowest hJ (by decide)) k0_X3_lowest ki_X3_lowest ml_L_89 (rfl : SH 0 = _) (by decide) (vRo_of hxR (by decide) (by decide)) dL_refuses_271 (Nat.le_of_ble_eq_true rfl) (fun N hN => ?_)
    have hJ := hN.1
    have hF := xfr_tr hF hN.2
    refine v_ldc (-1000002) kc_L_31 (by decide) dL_refuses_274 ?_
    refine v_icmp_neS dL_refuses_276 315 (by decide) (by unfold aLow; rw [if_neg (by decide)]) ?_
    refine v_aload_n 0 dL_refuses_279 rfl rfl ?_
    refine v_sipush dL_refuses_280 (by decide) ?_
    refine oVq1 3 (q_lowest hJ (by decide)) k0_X3_lowest ki_X3_lowest ml_L_89 (rfl : SH 0 = _) (by decide) (vRo_of hxR (by decide) (by decide)) dL_refuses_283 (Nat.le_of_ble_eq_true rfl) (fun N hN => ?_)
    have hJ := hN.1
    have hF := xfr_tr hF hN.2
    refine v_ldc (-1000002) kc_L_31 (by decide) dL_refuses_286 ?_
    refine v_icmp_neS dL_refuses_288 315 (by decide) (by unfold aLow; rw [if_neg (by decide)]) ?_
    refine v_aload_n 0 dL_refuses_291 rfl rfl ?_
    refine v_iconst dL_refuses_292 ?_
    refine oVv1 3 (n_save hJ (by decide) (by decide)) k0_X3_save ki_X3_save ml_L_92 (rfl : SH 0 = _) (by decide) (vRo_of hxR (by decide) (by decide)) dL_refuses_293 (Nat.le_of_ble_eq_true rfl) ?_
    refine v_ldc (-1000001) kc_L_32 (by decide) dL_refuses_296 ?_
    refine v_icmp_neS dL_refuses_298 315 (by decide) rfl ?_
    refine v_aload_n 0 dL_refuses_301 rfl rfl ?_
    refine v_iconst dL_refuses_302 ?_
    refine oVv1 3 (n_restore hJ (by decide) (fun g => absurd g.1 (by decide))) k0_X3_restore ki_X3_restore ml_L_117 (rfl : SH 0 = _) (by decide) (vRo_of hxR (by decide) (by decide)) dL_refuses_303 (Nat.le_of_ble_eq_true rfl) ?_
    refine v_ldc (-1000001) kc_L_32 (by decide) dL_refuses_306 ?_
    refine v_icmp_neS dL_refuses_308 315 (by decide) (if_neg (by decide)) ?_
    refine v_iconst dL_refuses_311 ?_
    refine v_goto 316 dL_refuses_312 (by decide) ?_
    refine v_ist3 dL_refuses_316 rfl ?_
    refine v_iload_n 3 dL_refuses_317 rfl rfl ?_
    refine v_if_eq 334 dL_refuses_318 (by decide) (by decide) (fun h318 => ?_) (fun h318 => ?_)
    · skip
      exact absurd h318 (by decide)
    · skip
      refine v_aload_n 0 dL_refuses_321 rfl rfl ?_
      refine oVq0 3 (q_checksum hJ) k0_X3_checksum ki_X3_checksum ml_L_85 (rfl : SH 0 = _) (by decide) (vRo_of hxR (by decide) (by decide)) dL_refuses_322 (Nat.le_of_ble_eq_true rfl) (fun N hN => ?_)
      have hJ := hN.1
      have hF := xfr_tr hF hN.2
      refine v_lload_n 1 dL_refuses_325 rfl rfl ?_
      refine v_lcmpS dL_refuses_326 rfl ?_
      refine v_if_ne 334 dL_refuses_327 (by decide) (by decide) (fun h327 => ?_) (fun h327 => ?_)
      · skip
        exact absurd h327 (by decide)
      · skip
        refine v_iconst dL_refuses_330 ?_
        refine v_goto 335 dL_refuses_331 (by decide) ?_
        refine o_zret hQ hlk hrt (.inr rfl) dL_refuses_335 ?_
        exact ⟨rfl, hJ, hF⟩
