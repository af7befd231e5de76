/-! ===== the twin: checksum ===== -/
def cA (v : Sg) : Nat → Int
  | 0 => 151
  | k + 1 => 31 * cA v k + vw (v (24 + k))
def cB (v : Sg) : Nat → Int
  | 0 => cA v 40
  | k + 1 => 31 * cB v k + vw (v (1 + k))
def cC (v : Sg) : Nat → Int
  | 0 => cB v 9
  | k + 1 => 31 * cC v k + vw (sTell v k)
def cD (v : Sg) : Nat → Int
  | 0 => cC v 10
  | q + 1 => 31 * cD v q + vw (sCh v (q / 3) (q % 3))
def cE (v : Sg) : Int := 31 * (31 * cD v 6 + vw (v 18)) + vw (v 19)
def cP (v : Sg) (h : Int) (s k : Nat) : Int := 31 * (31 * (31 * (31 * (31 * (31 * (31 * h + vw (100 * (s : Int) + (k : Int))) + vw (sNeed v s k)) + vw (v (64 + (24 * s + k)))) + vw (sAs v (sDrw v) true (24 * s + k))) + vw (sGt v (sDrw v) true (24 * s + k))) + vw (sPitch v (sDrw v) true s k)) + vw (sRs v (sDrw v) true s k)
def cF (v : Sg) : Nat → Int
  | 0 => cE v
  | p + 1 => if (sOpn v (sDrw v) true (p / 24)).testBit (p % 24) = true then cP v (cF v p) (p / 24) (p % 24) else cF v p
def sSum (v : Sg) : Int := 31 * (31 * (31 * cF v 192 + vw (sMist v)) + vw (sSearch v 0)) + vw (sSearch v 1)
theorem cD_s (v : Sg) (m : Nat) {w : Nat} (hw : w < 3) : cD v (3 * m + (w + 1)) = 31 * cD v (3 * m + w) + vw (sCh v m w) := by
  rw [← Nat.add_assoc, cD, show (3 * m + w) / 3 = m by omega, show (3 * m + w) % 3 = w by omega]
theorem cF_t {v : Sg} {s k : Nat} (hk : k < 24) (h : (sOpn v (sDrw v) true s).testBit k = true) : cP v (cF v (24 * s + k)) s k = cF v (24 * s + (k + 1)) := by
  rw [← Nat.add_assoc, cF, (p_div hk).1, (p_div hk).2, if_pos h]
theorem cF_e {v : Sg} {s k : Nat} (hk : k < 24) (h : ¬ (sOpn v (sDrw v) true s).testBit k = true) : cF v (24 * s + k) = cF v (24 * s + (k + 1)) := by
  rw [← Nat.add_assoc, cF, (p_div hk).1, (p_div hk).2, if_neg h]
set_option maxRecDepth 100000 in
set_option maxHeartbeats 1000000 in
theorem c_X4_checksum {l : Launch} {G : vGG} {M : Mem} {v : Sg} (hLM : LayM M.2) (hv : M.1 111 = v) (hI : sInv v) : Co l yX4_checksum cX4_checksum 7 (some .long) (rmo 5 118) G [aR (some 110)] M (fun r M' => r = some (aL (sSum v)) ∧ fr [120, 121, 122, 123, 124, 125] M M') := by
  refine Co.ofV (plainFor_of_name (by decide)) rfl rfl ?_
  intro x hxl hxR hlk hrt Q hQ
  show vO x Q G cX4_checksum RX4 0 [some (aR (some 110)), none, none, none, none, none, none] [] M
  refine v_ldc2 (151) kc_X4_218 (by decide) dX4_checksum_0 ?_
  refine v_lst1 dX4_checksum_3 rfl ?_
  refine v_iconst dX4_checksum_4 ?_
  refine v_ist3 dX4_checksum_5 rfl ?_
  have lp6 : ∀ (dd k : Nat), k + dd = 40 → vO x Q G cX4_checksum RX4 6 [some (aR (some 110)), some (aL (cA v k)), none, some (aI (k : Int)), none, none, none] [] M := by
    intro dd
    induction dd with
    | zero =>
      intro k hd
      obtain rfl : k = 40 := by omega
      refine v_iload_n 3 dX4_checksum_6 rfl rfl ?_
      refine v_bipush dX4_checksum_7 (by decide) ?_
      refine v_icmp_ge 32 dX4_checksum_9 (by decide) (by omega) (by decide) (fun h9 => ?_) (fun h9 => ?_)
      · skip
        refine v_iconst dX4_checksum_32 ?_
        refine v_ist3 dX4_checksum_33 rfl ?_
        have lp34 : ∀ (dd k : Nat), k + dd = 9 → vO x Q G cX4_checksum RX4 34 [some (aR (some 110)), some (aL (cB v k)), none, some (aI (k : Int)), none, none, none] [] M := by
          intro dd
          induction dd with
          | zero =>
            intro k hd
            obtain rfl : k = 9 := by omega
            refine v_iload_n 3 dX4_checksum_34 rfl rfl ?_
            refine v_bipush dX4_checksum_35 (by decide) ?_
            refine v_icmp_ge 59 dX4_checksum_37 (by decide) (by omega) (by decide) (fun h37 => ?_) (fun h37 => ?_)
            · skip
              refine v_iconst dX4_checksum_59 ?_
              refine v_ist3 dX4_checksum_60 rfl ?_
              have lp61 : ∀ (dd k : Nat) (K : Mem), k + dd = 10 → fr [120, 121, 122, 123, 124, 125] M K → vO x Q G cX4_checksum RX4 61 [some (aR (some 110)), some (aL (cC v k)), none, some (aI (k : Int)), none, none, none] [] K := by
                intro dd
                induction dd with
                | zero =>
                  intro k K hd hF
                  obtain rfl : k = 10 := by omega
                  have hLK := fr_lay hF hLM
                  have hvK : K.1 111 = v := (hF.2 111 (by decide)).trans hv
                  refine v_iload_n 3 dX4_checksum_61 rfl rfl ?_
                  refine v_bipush dX4_checksum_62 (by decide) ?_
                  refine v_icmp_ge 83 dX4_checksum_64 (by decide) (by omega) (by decide) (fun h64 => ?_) (fun h64 => ?_)
                  · skip
                    refine v_iconst dX4_checksum_83 ?_
                    refine v_ist3 dX4_checksum_84 rfl ?_
                    have lp85 : ∀ (dd m : Nat) (K : Mem) (c4 : Option AV), m + dd = 2 → fr [120, 121, 122, 123, 124, 125] M K → vO x Q G cX4_checksum RX4 85 [some (aR (some 110)), some (aL (cD v (3 * m))), none, some (aI (m : Int)), c4, none, none] [] K := by
                      intro dd
                      induction dd with
                      | zero =>
                        intro m K c4 hd hF
                        obtain rfl : m = 2 := by omega
                        have hLK := fr_lay hF hLM
                        have hvK : K.1 111 = v := (hF.2 111 (by decide)).trans hv
                        refine v_iload_n 3 dX4_checksum_85 rfl rfl ?_
                        refine v_iconst dX4_checksum_86 ?_
                        refine v_icmp_ge 123 dX4_checksum_87 (by decide) (by omega) (by decide) (fun h87 => ?_) (fun h87 => ?_)
                        · skip
                          refine v_lload_n 1 dX4_checksum_123 rfl rfl ?_
                          refine v_aload_n 0 dX4_checksum_124 rfl rfl ?_
                          refine v_getR lk_X4_7 rfl (rfl : SH 110 = _) (mo_0 hLK) dX4_checksum_125 ?_
                          refine v_bipush dX4_checksum_128 (by decide) ?_
                          refine o_iald (j := 18) (u := v (18)) (rfl : SH 111 = _) (by omega) (by omega) (by rw [hvK]) dX4_checksum_130 ?_
                          refine oSv2 (c_X4_more) k0_X4_more ki_X4_more ml_X4_220 (vRo_of hxR (by decide) (by decide)) dX4_checksum_131 (Nat.le_of_ble_eq_true rfl) ?_
                          refine v_aload_n 0 dX4_checksum_134 rfl rfl ?_
                          refine v_getR lk_X4_7 rfl (rfl : SH 110 = _) (mo_0 hLK) dX4_checksum_135 ?_
                          refine v_bipush dX4_checksum_138 (by decide) ?_
                          refine o_iald (j := 19) (u := v (19)) (rfl : SH 111 = _) (by omega) (by omega) (by rw [hvK]) dX4_checksum_140 ?_
                          refine oSv2 (c_X4_more) k0_X4_more ki_X4_more ml_X4_220 (vRo_of hxR (by decide) (by decide)) dX4_checksum_141 (Nat.le_of_ble_eq_true rfl) ?_
                          refine v_lst1 dX4_checksum_144 rfl ?_
                          refine v_aload_n 0 dX4_checksum_145 rfl rfl ?_
                          refine oVm0 4 (c_X4_laysNow hLK hvK hI) k0_X4_laysNow ki_X4_laysNow ml_X4_131 (rfl : SH 110 = _) (by decide) (vRo_of hxR (by decide) (by decide)) dX4_checksum_146 (Nat.le_of_ble_eq_true rfl) (fun N hN => ?_)
                          obtain ⟨hF2, hC⟩ := hN
                          have hF := fr_tr hF hF2 (fun i h => h)
                          have hLN := fr_lay hF hLM
                          have hvN : N.1 111 = v := (hF.2 111 (by decide)).trans hv
                          have hst := sDrw_lt hI
                          refine v_aload_n 0 dX4_checksum_149 rfl rfl ?_
                          refine oVv0 4 (c_X4_drawn hLN hvN hI) k0_X4_drawn ki_X4_drawn ml_X4_96 (rfl : SH 110 = _) (by decide) (vRo_of hxR (by decide) (by decide)) dX4_checksum_150 (Nat.le_of_ble_eq_true rfl) ?_
                          refine v_ist3 dX4_checksum_153 rfl ?_
                          refine v_iconst dX4_checksum_154 ?_
                          refine v_ist4 dX4_checksum_155 rfl ?_
                          have lp157 : ∀ (dd s : Nat) (c5 c6 : Option AV), s + dd = 8 → vO x Q G cX4_checksum RX4 157 [some (aR (some 110)), some (aL (cF v (24 * s))), none, some (aI (((sDrw v) : Nat) : Int)), some (aI (s : Int)), c5, c6] [] N := by
                            intro dd
                            induction dd with
                            | zero =>
                              intro s c5 c6 hd
                              obtain rfl : s = 8 := by omega
                              refine v_iload dX4_checksum_157 rfl ?_
                              refine v_bipush dX4_checksum_159 (by decide) ?_
                              refine v_icmp_ge 289 dX4_checksum_161 (by decide) (by omega) (by decide) (fun h161 => ?_) (fun h161 => ?_)
                              · skip
                                refine v_lload_n 1 dX4_checksum_289 rfl rfl ?_
                                refine v_aload_n 0 dX4_checksum_290 rfl rfl ?_
                                refine oVq0 4 (c_X4_mistunedNow hLN hvN hI) k0_X4_mistunedNow ki_X4_mistunedNow ml_X4_204 (rfl : SH 110 = _) (by decide) (vRo_of hxR (by decide) (by decide)) dX4_checksum_291 (Nat.le_of_ble_eq_true rfl) (fun N hN => ?_)
                                have hF := fr_tr hF hN (fun i h => h)
                                have hLN := fr_lay hF hLM
                                have hvN : N.1 111 = v := (hF.2 111 (by decide)).trans hv
                                refine oSv2 (c_X4_more) k0_X4_more ki_X4_more ml_X4_220 (vRo_of hxR (by decide) (by decide)) dX4_checksum_294 (Nat.le_of_ble_eq_true rfl) ?_
                                refine v_aload_n 0 dX4_checksum_297 rfl rfl ?_
                                refine v_iconst dX4_checksum_298 ?_
                                refine oVq1 4 (c_X4_searches (w := 0) hLN hvN hI (by decide)) k0_X4_searches ki_X4_searches ml_X4_213 (rfl : SH 110 = _) (by decide) (vRo_of hxR (by decide) (by decide)) dX4_checksum_299 (Nat.le_of_ble_eq_true rfl) (fun N hN => ?_)
                                have hF := fr_tr hF hN (fun i h => h)
                                have hLN := fr_lay hF hLM
                                have hvN : N.1 111 = v := (hF.2 111 (by decide)).trans hv
                                refine oSv2 (c_X4_more) k0_X4_more ki_X4_more ml_X4_220 (vRo_of hxR (by decide) (by decide)) dX4_checksum_302 (Nat.le_of_ble_eq_true rfl) ?_
                                refine v_aload_n 0 dX4_checksum_305 rfl rfl ?_
                                refine v_iconst dX4_checksum_306 ?_
                                refine oVq1 4 (c_X4_searches (w := 1) hLN hvN hI (by decide)) k0_X4_searches ki_X4_searches ml_X4_213 (rfl : SH 110 = _) (by decide) (vRo_of hxR (by decide) (by decide)) dX4_checksum_307 (Nat.le_of_ble_eq_true rfl) (fun N hN => ?_)
                                have hF := fr_tr hF hN (fun i h => h)
                                refine oSv2 (c_X4_more) k0_X4_more ki_X4_more ml_X4_220 (vRo_of hxR (by decide) (by decide)) dX4_checksum_310 (Nat.le_of_ble_eq_true rfl) ?_
                                refine o_lret hQ hlk hrt dX4_checksum_313 ?_
                                exact ⟨rfl, hF⟩
                              · skip
                                exact absurd h161 (by omega)
                            | succ dd ih =>
                              intro s c5 c6 hd
                              refine v_iload dX4_checksum_157 rfl ?_
                              refine v_bipush dX4_checksum_159 (by decide) ?_
                              refine v_icmp_ge 289 dX4_checksum_161 (by decide) (by omega) (by decide) (fun h161 => ?_) (fun h161 => ?_)
                              · skip
                                exact absurd h161 (by omega)
                              · skip
                                refine v_iconst dX4_checksum_164 ?_
                                refine v_ist5 dX4_checksum_165 rfl ?_
                                have lp167 : ∀ (dd2 k : Nat) (c6 : Option AV), k + dd2 = 24 → vO x Q G cX4_checksum RX4 167 [some (aR (some 110)), some (aL (cF v (24 * s + k))), none, some (aI (((sDrw v) : Nat) : Int)), some (aI (s : Int)), some (aI (k : Int)), c6] [] N := by
                                  intro dd2
                                  induction dd2 with
                                  | zero =>
                                    intro k c6 hd2
                                    obtain rfl : k = 24 := by omega
                                    refine v_iload dX4_checksum_167 rfl ?_
                                    refine v_bipush dX4_checksum_169 (by decide) ?_
                                    refine v_icmp_ge 283 dX4_checksum_171 (by decide) (by omega) (by decide) (fun h171 => ?_) (fun h171 => ?_)
                                    · skip
                                      refine v_iinc4 dX4_checksum_283 rfl ?_
                                      refine v_goto 157 dX4_checksum_286 (by decide) ?_
                                      exact ih (s + 1) _ _ (by omega)
                                    · skip
                                      exact absurd h171 (by omega)
                                  | succ dd2 ih2 =>
                                    intro k c6 hd2
                                    refine v_iload dX4_checksum_167 rfl ?_
                                    refine v_bipush dX4_checksum_169 (by decide) ?_
                                    refine v_icmp_ge 283 dX4_checksum_171 (by decide) (by omega) (by decide) (fun h171 => ?_) (fun h171 => ?_)
                                    · skip
                                      exact absurd h171 (by omega)
                                    · skip
                                      refine v_aload_n 0 dX4_checksum_174 rfl rfl ?_
                                      refine v_iload dX4_checksum_175 rfl ?_
                                      refine v_iload dX4_checksum_177 rfl ?_
                                      refine oVv2 4 (c_X4_isOpen hLN hvN hI hC hst (by omega) (by omega)) k0_X4_isOpen ki_X4_isOpen ml_X4_121 (rfl : SH 110 = _) (by decide) (vRo_of hxR (by decide) (by decide)) dX4_checksum_179 (Nat.le_of_ble_eq_true rfl) ?_
                                      have jn277 : ∀ (z : Int) (c6 : Option AV), z = cF v (24 * s + (k + 1)) → vO x Q G cX4_checksum RX4 277 [some (aR (some 110)), some (aL (z)), none, some (aI (((sDrw v) : Nat) : Int)), some (aI (s : Int)), some (aI (k : Int)), c6] [] N := by
                                        intro z c6 hz
                                        subst hz
                                        refine v_iinc5 dX4_checksum_277 rfl ?_
                                        refine v_goto 167 dX4_checksum_280 (by decide) ?_
                                        exact ih2 (k + 1) _ (by omega)
                                      refine v_if_eq 277 dX4_checksum_182 (by decide) (bP_R _) (fun h182 => ?_) (fun h182 => ?_)
                                      · skip
                                        have g := bP_0.mp h182
                                        first | exact jn277 _ _ (cF_e (by omega) g) | exact jn277 _ _ (cF_t (by omega) g)
                                      · skip
                                        have g := bP_n0.mp h182
                                        refine v_bipush dX4_checksum_185 (by decide) ?_
                                        refine v_iload dX4_checksum_187 rfl ?_
                                        refine v_imul dX4_checksum_189 ?_
                                        refine v_iload dX4_checksum_190 rfl ?_
                                        refine v_iadd dX4_checksum_192 ?_
                                        refine v_ist6 dX4_checksum_193 rfl ?_
                                        refine v_lload_n 1 dX4_checksum_195 rfl rfl ?_
                                        refine v_bipush dX4_checksum_196 (by decide) ?_
                                        refine v_iload dX4_checksum_198 rfl ?_
                                        refine v_imul dX4_checksum_200 ?_
                                        refine v_iload dX4_checksum_201 rfl ?_
                                        refine v_iadd dX4_checksum_203 ?_
                                        refine oSv2 (c_X4_more) k0_X4_more ki_X4_more ml_X4_220 (vRo_of hxR (by decide) (by decide)) dX4_checksum_204 (Nat.le_of_ble_eq_true rfl) ?_
                                        refine v_aload_n 0 dX4_checksum_207 rfl rfl ?_
                                        refine v_iload dX4_checksum_208 rfl ?_
                                        refine v_iload dX4_checksum_210 rfl ?_
                                        refine oVv2 4 (c_X4_need hLN hvN hI (by omega) (by omega)) k0_X4_need ki_X4_need ml_X4_111 (rfl : SH 110 = _) (by decide) (vRo_of hxR (by decide) (by decide)) dX4_checksum_212 (Nat.le_of_ble_eq_true rfl) ?_
                                        refine oSv2 (c_X4_more) k0_X4_more ki_X4_more ml_X4_220 (vRo_of hxR (by decide) (by decide)) dX4_checksum_215 (Nat.le_of_ble_eq_true rfl) ?_
                                        refine v_aload_n 0 dX4_checksum_218 rfl rfl ?_
                                        refine v_getR lk_X4_7 rfl (rfl : SH 110 = _) (mo_0 hLN) dX4_checksum_219 ?_
                                        refine v_bipush dX4_checksum_222 (by decide) ?_
                                        refine v_iload dX4_checksum_224 rfl ?_
                                        refine v_iadd dX4_checksum_226 ?_
                                        refine o_iald (j := 64 + ((24 * s) + k)) (u := v (64 + ((24 * s) + k))) (rfl : SH 111 = _) (by omega) (by omega) (by rw [hvN]) dX4_checksum_227 ?_
                                        refine oSv2 (c_X4_more) k0_X4_more ki_X4_more ml_X4_220 (vRo_of hxR (by decide) (by decide)) dX4_checksum_228 (Nat.le_of_ble_eq_true rfl) ?_
                                        refine v_lst1 dX4_checksum_231 rfl ?_
                                        refine v_lload_n 1 dX4_checksum_232 rfl rfl ?_
                                        refine v_aload_n 0 dX4_checksum_233 rfl rfl ?_
                                        refine v_getR lk_X4_50 rfl (rfl : SH 110 = _) (mo_15 hLN) dX4_checksum_234 ?_
                                        refine v_iload dX4_checksum_237 rfl ?_
                                        refine o_iald (j := (24 * s) + k) (u := sAs v (sDrw v) true ((24 * s) + k)) (rfl : SH 124 = _) (by omega) (by omega) (hC.2.1 _ (by omega)) dX4_checksum_239 ?_
                                        refine oSv2 (c_X4_more) k0_X4_more ki_X4_more ml_X4_220 (vRo_of hxR (by decide) (by decide)) dX4_checksum_240 (Nat.le_of_ble_eq_true rfl) ?_
                                        refine v_aload_n 0 dX4_checksum_243 rfl rfl ?_
                                        refine v_getR lk_X4_53 rfl (rfl : SH 110 = _) (mo_16 hLN) dX4_checksum_244 ?_
                                        refine v_iload dX4_checksum_247 rfl ?_
                                        refine o_iald (j := (24 * s) + k) (u := sGt v (sDrw v) true ((24 * s) + k)) (rfl : SH 125 = _) (by omega) (by omega) (hC.2.2 _ (by omega)) dX4_checksum_249 ?_
                                        refine oSv2 (c_X4_more) k0_X4_more ki_X4_more ml_X4_220 (vRo_of hxR (by decide) (by decide)) dX4_checksum_250 (Nat.le_of_ble_eq_true rfl) ?_
                                        refine v_aload_n 0 dX4_checksum_253 rfl rfl ?_
                                        refine v_iload dX4_checksum_254 rfl ?_
                                        refine v_iload dX4_checksum_256 rfl ?_
                                        refine oVv2 4 (c_X4_pitch hLN hvN hI hC hst (by omega) (by omega)) k0_X4_pitch ki_X4_pitch ml_X4_195 (rfl : SH 110 = _) (by decide) (vRo_of hxR (by decide) (by decide)) dX4_checksum_258 (Nat.le_of_ble_eq_true rfl) ?_
                                        refine oSv2 (c_X4_more) k0_X4_more ki_X4_more ml_X4_220 (vRo_of hxR (by decide) (by decide)) dX4_checksum_261 (Nat.le_of_ble_eq_true rfl) ?_
                                        refine v_aload_n 0 dX4_checksum_264 rfl rfl ?_
                                        refine v_iload dX4_checksum_265 rfl ?_
                                        refine v_iload dX4_checksum_267 rfl ?_
                                        refine v_iload_n 3 dX4_checksum_269 rfl rfl ?_
                                        refine oVv3 4 (c_X4_reasonOf hLN hvN hI hC hst (by omega) (by omega)) k0_X4_reasonOf ki_X4_reasonOf ml_X4_179 (rfl : SH 110 = _) (by decide) (vRo_of hxR (by decide) (by decide)) dX4_checksum_270 (Nat.le_of_ble_eq_true rfl) ?_
                                        refine oSv2 (c_X4_more) k0_X4_more ki_X4_more ml_X4_220 (vRo_of hxR (by decide) (by decide)) dX4_checksum_273 (Nat.le_of_ble_eq_true rfl) ?_
                                        refine v_lst1 dX4_checksum_276 rfl ?_
                                        first | exact jn277 _ _ (cF_e (by omega) g) | exact jn277 _ _ (cF_t (by omega) g)
                                exact lp167 24 0 _ rfl
                          exact lp157 8 0 _ _ rfl
                        · skip
                          exact absurd h87 (by omega)
                      | succ dd ih =>
                        intro m K c4 hd hF
                        have hLK := fr_lay hF hLM
                        have hvK : K.1 111 = v := (hF.2 111 (by decide)).trans hv
                        refine v_iload_n 3 dX4_checksum_85 rfl rfl ?_
                        refine v_iconst dX4_checksum_86 ?_
                        refine v_icmp_ge 123 dX4_checksum_87 (by decide) (by omega) (by decide) (fun h87 => ?_) (fun h87 => ?_)
                        · skip
                          exact absurd h87 (by omega)
                        · skip
                          refine v_iconst dX4_checksum_90 ?_
                          refine v_ist4 dX4_checksum_91 rfl ?_
                          have lp93 : ∀ (dd2 w : Nat) (K : Mem), w + dd2 = 3 → fr [120, 121, 122, 123, 124, 125] M K → vO x Q G cX4_checksum RX4 93 [some (aR (some 110)), some (aL (cD v (3 * m + w))), none, some (aI (m : Int)), some (aI (w : Int)), none, none] [] K := by
                            intro dd2
                            induction dd2 with
                            | zero =>
                              intro w K hd2 hF
                              obtain rfl : w = 3 := by omega
                              have hLK := fr_lay hF hLM
                              have hvK : K.1 111 = v := (hF.2 111 (by decide)).trans hv
                              refine v_iload dX4_checksum_93 rfl ?_
                              refine v_iconst dX4_checksum_95 ?_
                              refine v_icmp_ge 117 dX4_checksum_96 (by decide) (by omega) (by decide) (fun h96 => ?_) (fun h96 => ?_)
                              · skip
                                refine v_iinc3 dX4_checksum_117 rfl ?_
                                refine v_goto 85 dX4_checksum_120 (by decide) ?_
                                exact ih (m + 1) _ _ (by omega) hF
                              · skip
                                exact absurd h96 (by omega)
                            | succ dd2 ih2 =>
                              intro w K hd2 hF
                              have hLK := fr_lay hF hLM
                              have hvK : K.1 111 = v := (hF.2 111 (by decide)).trans hv
                              refine v_iload dX4_checksum_93 rfl ?_
                              refine v_iconst dX4_checksum_95 ?_
                              refine v_icmp_ge 117 dX4_checksum_96 (by decide) (by omega) (by decide) (fun h96 => ?_) (fun h96 => ?_)
                              · skip
                                exact absurd h96 (by omega)
                              · skip
                                refine v_lload_n 1 dX4_checksum_99 rfl rfl ?_
                                refine v_aload_n 0 dX4_checksum_100 rfl rfl ?_
                                refine v_iload_n 3 dX4_checksum_101 rfl rfl ?_
                                refine v_iload dX4_checksum_102 rfl ?_
                                refine oVq2 4 (c_X4_chestTells hLK hvK hI (by omega) (by omega)) k0_X4_chestTells ki_X4_chestTells ml_X4_192 (rfl : SH 110 = _) (by decide) (vRo_of hxR (by decide) (by decide)) dX4_checksum_104 (Nat.le_of_ble_eq_true rfl) (fun N hN => ?_)
                                have hF := fr_tr hF hN (fun i h => h)
                                refine oSv2 (c_X4_more) k0_X4_more ki_X4_more ml_X4_220 (vRo_of hxR (by decide) (by decide)) dX4_checksum_107 (Nat.le_of_ble_eq_true rfl) ?_
                                refine v_lst1 dX4_checksum_110 rfl ?_
                                refine v_iinc4 dX4_checksum_111 rfl ?_
                                refine v_goto 93 dX4_checksum_114 (by decide) ?_
                                have q := ih2 (w + 1) _ (by omega) hF
                                rw [cD_s v m (by omega)] at q
                                exact q
                          exact lp93 3 0 _ rfl hF
                    exact lp85 2 0 _ _ rfl hF
                  · skip
                    exact absurd h64 (by omega)
                | succ dd ih =>
                  intro k K hd hF
                  have hLK := fr_lay hF hLM
                  have hvK : K.1 111 = v := (hF.2 111 (by decide)).trans hv
                  refine v_iload_n 3 dX4_checksum_61 rfl rfl ?_
                  refine v_bipush dX4_checksum_62 (by decide) ?_
                  refine v_icmp_ge 83 dX4_checksum_64 (by decide) (by omega) (by decide) (fun h64 => ?_) (fun h64 => ?_)
                  · skip
                    exact absurd h64 (by omega)
                  · skip
                    refine v_lload_n 1 dX4_checksum_67 rfl rfl ?_
                    refine v_aload_n 0 dX4_checksum_68 rfl rfl ?_
                    refine v_iload_n 3 dX4_checksum_69 rfl rfl ?_
                    refine oVq1 4 (c_X4_tells hLK hvK hI (by omega)) k0_X4_tells ki_X4_tells ml_X4_189 (rfl : SH 110 = _) (by decide) (vRo_of hxR (by decide) (by decide)) dX4_checksum_70 (Nat.le_of_ble_eq_true rfl) (fun N hN => ?_)
                    have hF := fr_tr hF hN (fun i h => h)
                    refine oSv2 (c_X4_more) k0_X4_more ki_X4_more ml_X4_220 (vRo_of hxR (by decide) (by decide)) dX4_checksum_73 (Nat.le_of_ble_eq_true rfl) ?_
                    refine v_lst1 dX4_checksum_76 rfl ?_
                    refine v_iinc3 dX4_checksum_77 rfl ?_
                    refine v_goto 61 dX4_checksum_80 (by decide) ?_
                    exact ih (k + 1) _ (by omega) hF
              exact lp61 10 0 M rfl fr_rf
            · skip
              exact absurd h37 (by omega)
          | succ dd ih =>
            intro k hd
            refine v_iload_n 3 dX4_checksum_34 rfl rfl ?_
            refine v_bipush dX4_checksum_35 (by decide) ?_
            refine v_icmp_ge 59 dX4_checksum_37 (by decide) (by omega) (by decide) (fun h37 => ?_) (fun h37 => ?_)
            · skip
              exact absurd h37 (by omega)
            · skip
              refine v_lload_n 1 dX4_checksum_40 rfl rfl ?_
              refine v_aload_n 0 dX4_checksum_41 rfl rfl ?_
              refine v_getR lk_X4_7 rfl (rfl : SH 110 = _) (mo_0 hLM) dX4_checksum_42 ?_
              refine v_iconst dX4_checksum_45 ?_
              refine v_iload_n 3 dX4_checksum_46 rfl rfl ?_
              refine v_iadd dX4_checksum_47 ?_
              refine o_iald (j := 1 + k) (u := v (1 + k)) (rfl : SH 111 = _) (by omega) (by omega) (by rw [hv]) dX4_checksum_48 ?_
              refine oSv2 (c_X4_more) k0_X4_more ki_X4_more ml_X4_220 (vRo_of hxR (by decide) (by decide)) dX4_checksum_49 (Nat.le_of_ble_eq_true rfl) ?_
              refine v_lst1 dX4_checksum_52 rfl ?_
              refine v_iinc3 dX4_checksum_53 rfl ?_
              refine v_goto 34 dX4_checksum_56 (by decide) ?_
              exact ih (k + 1) (by omega)
        exact lp34 9 0 rfl
      · skip
        exact absurd h9 (by omega)
    | succ dd ih =>
      intro k hd
      refine v_iload_n 3 dX4_checksum_6 rfl rfl ?_
      refine v_bipush dX4_checksum_7 (by decide) ?_
      refine v_icmp_ge 32 dX4_checksum_9 (by decide) (by omega) (by decide) (fun h9 => ?_) (fun h9 => ?_)
      · skip
        exact absurd h9 (by omega)
      · skip
        refine v_lload_n 1 dX4_checksum_12 rfl rfl ?_
        refine v_aload_n 0 dX4_checksum_13 rfl rfl ?_
        refine v_getR lk_X4_7 rfl (rfl : SH 110 = _) (mo_0 hLM) dX4_checksum_14 ?_
        refine v_bipush dX4_checksum_17 (by decide) ?_
        refine v_iload_n 3 dX4_checksum_19 rfl rfl ?_
        refine v_iadd dX4_checksum_20 ?_
        refine o_iald (j := 24 + k) (u := v (24 + k)) (rfl : SH 111 = _) (by omega) (by omega) (by rw [hv]) dX4_checksum_21 ?_
        refine oSv2 (c_X4_more) k0_X4_more ki_X4_more ml_X4_220 (vRo_of hxR (by decide) (by decide)) dX4_checksum_22 (Nat.le_of_ble_eq_true rfl) ?_
        refine v_lst1 dX4_checksum_25 rfl ?_
        refine v_iinc3 dX4_checksum_26 rfl ?_
        refine v_goto 6 dX4_checksum_29 (by decide) ?_
        exact ih (k + 1) (by omega)
  exact lp6 40 0 rfl
