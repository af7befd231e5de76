/-! ===== the twin: ticks ===== -/
section OG
variable {x : vXX} {Q : State → Prop} {G : vGG} {cc : ByteArray} {own : String} {pc : Nat} {ls : List (Option AV)} {st : List AV} {M : Mem}
theorem o_gw {L : List Nat} {M0 : Mem} {w : Sg} {j : Nat} {z : Int} (hF : fr L M0 M) (hL : 111 ∈ L) (hv : M.1 111 = w) (kk : ∀ K : Mem, fr L M0 K → K.1 111 = sup w j z → (∀ i, i ≠ 111 → K.1 i = M.1 i) → vO x Q G cc own pc ls st K) : vO x Q G cc own pc ls st (vup M.1 111 j z, M.2) := by
  obtain ⟨h1, h2⟩ := fr_gw hF hL hv j z
  exact kk _ h1 h2 (fun i hi => by funext b; exact vup_nid _ _ _ hi)
end OG
theorem sp_n {w : Sg} (h : ¬ w 22 = 1) (h0 : 0 ≤ w 23) : (w 23).tdiv (w 21) = sPart w := by rw [sPart, if_neg h, nu_tdiv h0]
theorem sp_y {w : Sg} (h : w 22 = 1) : w 20 = sPart w := by rw [sPart, if_pos h]
set_option maxRecDepth 100000 in
set_option maxHeartbeats 400000 in
theorem c_X4_ticks {l : Launch} {G : vGG} {M : Mem} {v : Sg} (hLM : LayM M.2) (hv : M.1 111 = v) (hI : sInv v) : Co l yX4_ticks cX4_ticks 3 none (rmo 3 70) G [aR (some 110)] M (fun r M' => r = none ∧ fr [111, 120, 121, 122, 123, 124, 125] M M' ∧ M'.1 111 = sTick v) := by
  refine Co.ofV (plainFor_of_name (by decide)) rfl rfl ?_
  intro x hxl hxR hlk hrt Q hQ
  have hb1 := iv_bel hI
  have hs1 := iv_set hI
  have hF : fr [111, 120, 121, 122, 123, 124, 125] M M := fr_rf
  show vO x Q G cX4_ticks RX4 0 [some (aR (some 110)), none, none] [] M
  refine v_aload_n 0 dX4_ticks_0 rfl rfl ?_
  refine v_getR lk_X4_7 rfl (rfl : SH 110 = _) (mo_0 hLM) dX4_ticks_1 ?_
  refine v_bipush dX4_ticks_4 (by decide) ?_
  refine o_iald (j := 22) (u := v (22)) (rfl : SH 111 = _) (by omega) (by omega) (by rw [hv]; first | done | (simp [sup]; done) | (simp only [sup]; repeat rw [if_neg (by omega)])) dX4_ticks_6 ?_
  have jn117 : ∀ (K : Mem) (w : Sg), fr [111, 120, 121, 122, 123, 124, 125] M K → K.1 111 = w → w = sBeg v → vO x Q G cX4_ticks RX4 117 [some (aR (some 110)), none, none] [] K := by
    intro K w hF hv hw
    have hLK := fr_lay hF hLM
    have hIw : sInv w := by rw [hw]; exact sBeg_inv hI
    have hbw := iv_bel hIw
    have hsw := iv_set hIw
    refine v_aload_n 0 dX4_ticks_117 rfl rfl ?_
    refine v_getR lk_X4_7 rfl (rfl : SH 110 = _) (mo_0 hLK) dX4_ticks_118 ?_
    refine v_bipush dX4_ticks_121 (by decide) ?_
    refine o_iald (j := 22) (u := w (22)) (rfl : SH 111 = _) (by omega) (by omega) (by rw [hv]; first | done | (simp [sup]; done) | (simp only [sup]; repeat rw [if_neg (by omega)])) dX4_ticks_123 ?_
    have jn258 : ∀ (K : Mem) (u : Sg) (c1 c2 : Option AV), fr [111, 120, 121, 122, 123, 124, 125] M K → K.1 111 = u → u = sPmp v → vO x Q G cX4_ticks RX4 258 [some (aR (some 110)), c1, c2] [] K := by
      intro K u c1 c2 hF hv hu
      have hLK := fr_lay hF hLM
      have hIu : sInv u := by rw [hu]; exact sPmp_inv hI
      refine v_aload_n 0 dX4_ticks_258 rfl rfl ?_
      refine oVm0 4 (c_X4_laysNow hLK hv hIu) k0_X4_laysNow ki_X4_laysNow ml_X4_131 (rfl : SH 110 = _) (by decide) (vRo_of hxR (by decide) (by decide)) dX4_ticks_259 (Nat.le_of_ble_eq_true rfl) (fun N hN => ?_)
      obtain ⟨hF2, hC⟩ := hN
      have hF := fr_tr hF hF2 (by decide)
      have hvN : N.1 111 = u := (hF2.2 111 (by decide)).trans hv
      refine v_iconst dX4_ticks_262 ?_
      refine v_ist1 dX4_ticks_263 rfl ?_
      have lp264 : ∀ (dd p : Nat) (K : Mem) (c2 : Option AV), p + dd = 192 → fr [111, 120, 121, 122, 123, 124, 125] M K → K.1 111 = sFl u p → (∀ q, q < 192 → K.1 125 q = sGt u (sDrw u) true q) → vO x Q G cX4_ticks RX4 264 [some (aR (some 110)), some (aI (p : Int)), c2] [] K := by
        intro dd
        induction dd with
        | zero =>
          intro p K c2 hd hF hv hg
          obtain rfl : p = 192 := by omega
          have hLK := fr_lay hF hLM
          refine v_iload_n 1 dX4_ticks_264 rfl rfl ?_
          refine v_sipush dX4_ticks_265 (by decide) ?_
          refine v_icmp_ge 333 dX4_ticks_268 (by decide) (by omega) (by decide) (fun h268 => ?_) (fun h268 => ?_)
          · skip
            refine v_aload_n 0 dX4_ticks_333 rfl rfl ?_
            refine v_getR lk_X4_7 rfl (rfl : SH 110 = _) (mo_0 hLK) dX4_ticks_334 ?_
            refine v_bipush dX4_ticks_337 (by decide) ?_
            refine v_dup2 dX4_ticks_339 rfl rfl ?_
            refine o_iald (j := 13) (u := u 13) (rfl : SH 111 = _) (by omega) (by omega) (by rw [hv, sFl, if_neg (by decide), if_neg (by decide), if_neg (by decide)]) dX4_ticks_340 ?_
            refine v_iconst dX4_ticks_341 ?_
            refine v_iadd dX4_ticks_342 ?_
            refine o_iast (j := 13) (by omega) (rfl : SH 111 = _) (by omega) (by omega) dX4_ticks_343 ?_
            refine o_gw hF (by decide) hv (fun K hF hv he => ?_)
            have hLK := fr_lay hF hLM
            refine o_ret hQ hlk hrt dX4_ticks_344 ?_
            exact ⟨rfl, hF, by rw [hv, hu]; rfl⟩
          · skip
            exact absurd h268 (by omega)
        | succ dd ih =>
          intro p K c2 hd hF hv hg
          have hLK := fr_lay hF hLM
          refine v_iload_n 1 dX4_ticks_264 rfl rfl ?_
          refine v_sipush dX4_ticks_265 (by decide) ?_
          refine v_icmp_ge 333 dX4_ticks_268 (by decide) (by omega) (by decide) (fun h268 => ?_) (fun h268 => ?_)
          · skip
            exact absurd h268 (by omega)
          · skip
            refine v_aload_n 0 dX4_ticks_271 rfl rfl ?_
            refine v_getR lk_X4_7 rfl (rfl : SH 110 = _) (mo_0 hLK) dX4_ticks_272 ?_
            refine v_bipush dX4_ticks_275 (by decide) ?_
            refine v_iconst dX4_ticks_277 ?_
            refine v_iload_n 1 dX4_ticks_278 rfl rfl ?_
            refine v_bipush dX4_ticks_279 (by decide) ?_
            refine v_idiv dX4_ticks_281 (by omega) (by decide) (by omega) ?_
            refine o_eqI (u := ((p / 24 : Nat) : Int)) (dv_n p 24) ?_
            refine v_imul dX4_ticks_282 ?_
            refine v_iadd dX4_ticks_283 ?_
            refine v_iconst dX4_ticks_284 ?_
            refine v_iadd dX4_ticks_285 ?_
            refine v_dup2 dX4_ticks_286 rfl rfl ?_
            refine o_iald (j := (24 + (5 * (p / 24))) + 4) (u := sFl u p ((24 + (5 * (p / 24))) + 4)) (rfl : SH 111 = _) (by omega) (by omega) (by rw [hv]; first | done | (simp [sup]; done) | (simp only [sup]; repeat rw [if_neg (by omega)])) dX4_ticks_287 ?_
            refine v_aload_n 0 dX4_ticks_288 rfl rfl ?_
            refine v_getR lk_X4_53 rfl (rfl : SH 110 = _) (mo_16 hLK) dX4_ticks_289 ?_
            refine v_iload_n 1 dX4_ticks_292 rfl rfl ?_
            refine o_iald (j := p) (u := sGt u (sDrw u) true (p)) (rfl : SH 125 = _) (by omega) (by omega) (hg _ (by omega)) dX4_ticks_293 ?_
            refine v_iadd dX4_ticks_294 ?_
            refine o_iast (j := (24 + (5 * (p / 24))) + 4) (by omega) (rfl : SH 111 = _) (by omega) (by omega) dX4_ticks_295 ?_
            refine o_gw hF (by decide) hv (fun K hF hv he => ?_)
            have hLK := fr_lay hF hLM
            have hg : ∀ q, q < 192 → K.1 125 q = sGt u (sDrw u) true q := fun q hq => by rw [he 125 (by decide)]; exact hg q hq
            refine v_aload_n 0 dX4_ticks_296 rfl rfl ?_
            refine v_getR lk_X4_7 rfl (rfl : SH 110 = _) (mo_0 hLK) dX4_ticks_297 ?_
            refine v_bipush dX4_ticks_300 (by decide) ?_
            refine v_dup2 dX4_ticks_302 rfl rfl ?_
            refine o_iald (j := 15) (u := sFl u p (15)) (rfl : SH 111 = _) (by omega) (by omega) (by rw [hv]; first | done | (simp [sup]; done) | (simp only [sup]; repeat rw [if_neg (by omega)])) dX4_ticks_303 ?_
            refine v_aload_n 0 dX4_ticks_304 rfl rfl ?_
            refine v_getR lk_X4_53 rfl (rfl : SH 110 = _) (mo_16 hLK) dX4_ticks_305 ?_
            refine v_iload_n 1 dX4_ticks_308 rfl rfl ?_
            refine o_iald (j := p) (u := sGt u (sDrw u) true (p)) (rfl : SH 125 = _) (by omega) (by omega) (hg _ (by omega)) dX4_ticks_309 ?_
            refine v_iadd dX4_ticks_310 ?_
            refine o_iast (j := 15) (by omega) (rfl : SH 111 = _) (by omega) (by omega) dX4_ticks_311 ?_
            refine o_gw hF (by decide) hv (fun K hF hv he => ?_)
            have hLK := fr_lay hF hLM
            have hg : ∀ q, q < 192 → K.1 125 q = sGt u (sDrw u) true q := fun q hq => by rw [he 125 (by decide)]; exact hg q hq
            refine v_aload_n 0 dX4_ticks_312 rfl rfl ?_
            refine v_getR lk_X4_7 rfl (rfl : SH 110 = _) (mo_0 hLK) dX4_ticks_313 ?_
            refine v_iconst dX4_ticks_316 ?_
            refine v_dup2 dX4_ticks_317 rfl rfl ?_
            refine o_iald (j := 0) (u := sFl u p (0)) (rfl : SH 111 = _) (by omega) (by omega) (by rw [hv]; first | done | (simp [sup]; done) | (simp only [sup]; repeat rw [if_neg (by omega)])) dX4_ticks_318 ?_
            refine v_aload_n 0 dX4_ticks_319 rfl rfl ?_
            refine v_getR lk_X4_53 rfl (rfl : SH 110 = _) (mo_16 hLK) dX4_ticks_320 ?_
            refine v_iload_n 1 dX4_ticks_323 rfl rfl ?_
            refine o_iald (j := p) (u := sGt u (sDrw u) true (p)) (rfl : SH 125 = _) (by omega) (by omega) (hg _ (by omega)) dX4_ticks_324 ?_
            refine v_isub dX4_ticks_325 ?_
            refine o_iast (j := 0) (by omega) (rfl : SH 111 = _) (by omega) (by omega) dX4_ticks_326 ?_
            refine o_gw hF (by decide) hv (fun K hF hv he => ?_)
            have hLK := fr_lay hF hLM
            have hg : ∀ q, q < 192 → K.1 125 q = sGt u (sDrw u) true q := fun q hq => by rw [he 125 (by decide)]; exact hg q hq
            refine v_iinc1 dX4_ticks_327 rfl ?_
            refine v_goto 264 dX4_ticks_330 (by decide) ?_
            exact ih (p + 1) K _ (by omega) hF (by rw [hv, sFl_step u (by omega)]) hg
      exact lp264 192 0 _ _ rfl hF (by rw [hvN, sFl_0]) (fun q hq => hC.2.2 q hq)
    refine v_if_le 258 dX4_ticks_124 (by decide) (by omega) (fun h124 => ?_) (fun h124 => ?_)
    · skip
      first | exact jn258 _ _ _ _ hF hv (by rw [sPmp, ← hw, sMak, if_neg (by omega)]) | exact jn258 _ _ _ _ hF hv (by rw [sPmp, ← hw, sMak, if_pos (by omega)])
    · skip
      have hpb := sPart_b hIw (by omega)
      have h5 := hbw.2.2.2.2 (by omega)
      refine v_aload_n 0 dX4_ticks_127 rfl rfl ?_
      refine v_getR lk_X4_7 rfl (rfl : SH 110 = _) (mo_0 hLK) dX4_ticks_128 ?_
      refine v_bipush dX4_ticks_131 (by decide) ?_
      refine o_iald (j := 22) (u := w (22)) (rfl : SH 111 = _) (by omega) (by omega) (by rw [hv]; first | done | (simp [sup]; done) | (simp only [sup]; repeat rw [if_neg (by omega)])) dX4_ticks_133 ?_
      refine v_iconst dX4_ticks_134 ?_
      have jn163 : ∀ z : Int, z = sPart w → vO x Q G cX4_ticks RX4 163 [some (aR (some 110)), none, none] [aI z] K := by
        intro z hz
        subst hz
        refine v_ist1 dX4_ticks_163 rfl ?_
        refine v_aload_n 0 dX4_ticks_164 rfl rfl ?_
        refine v_getR lk_X4_7 rfl (rfl : SH 110 = _) (mo_0 hLK) dX4_ticks_165 ?_
        refine v_bipush dX4_ticks_168 (by decide) ?_
        refine v_dup2 dX4_ticks_170 rfl rfl ?_
        refine o_iald (j := 22) (u := w (22)) (rfl : SH 111 = _) (by omega) (by omega) (by rw [hv]; first | done | (simp [sup]; done) | (simp only [sup]; repeat rw [if_neg (by omega)])) dX4_ticks_171 ?_
        refine v_iconst dX4_ticks_172 ?_
        refine v_isub dX4_ticks_173 ?_
        refine o_iast (j := 22) (by omega) (rfl : SH 111 = _) (by omega) (by omega) dX4_ticks_174 ?_
        refine o_gw hF (by decide) hv (fun K hF hv he => ?_)
        have hLK := fr_lay hF hLM
        refine v_aload_n 0 dX4_ticks_175 rfl rfl ?_
        refine v_getR lk_X4_7 rfl (rfl : SH 110 = _) (mo_0 hLK) dX4_ticks_176 ?_
        refine v_bipush dX4_ticks_179 (by decide) ?_
        refine v_dup2 dX4_ticks_181 rfl rfl ?_
        refine o_iald (j := 20) (u := w (20)) (rfl : SH 111 = _) (by omega) (by omega) (by rw [hv]; first | done | (simp [sup]; done) | (simp only [sup]; repeat rw [if_neg (by omega)])) dX4_ticks_182 ?_
        refine v_iload_n 1 dX4_ticks_183 rfl rfl ?_
        refine v_isub dX4_ticks_184 ?_
        refine o_iast (j := 20) (by omega) (rfl : SH 111 = _) (by omega) (by omega) dX4_ticks_185 ?_
        refine o_gw hF (by decide) hv (fun K hF hv he => ?_)
        have hLK := fr_lay hF hLM
        refine v_aload_n 0 dX4_ticks_186 rfl rfl ?_
        refine v_getR lk_X4_7 rfl (rfl : SH 110 = _) (mo_0 hLK) dX4_ticks_187 ?_
        refine v_bipush dX4_ticks_190 (by decide) ?_
        refine v_dup2 dX4_ticks_192 rfl rfl ?_
        refine o_iald (j := 14) (u := w (14)) (rfl : SH 111 = _) (by omega) (by omega) (by rw [hv]; first | done | (simp [sup]; done) | (simp only [sup]; repeat rw [if_neg (by omega)])) dX4_ticks_193 ?_
        refine v_iload_n 1 dX4_ticks_194 rfl rfl ?_
        refine v_iadd dX4_ticks_195 ?_
        refine o_iast (j := 14) (by omega) (rfl : SH 111 = _) (by omega) (by omega) dX4_ticks_196 ?_
        refine o_gw hF (by decide) hv (fun K hF hv he => ?_)
        have hLK := fr_lay hF hLM
        refine v_aload_n 0 dX4_ticks_197 rfl rfl ?_
        refine v_getR lk_X4_7 rfl (rfl : SH 110 = _) (mo_0 hLK) dX4_ticks_198 ?_
        refine v_iconst dX4_ticks_201 ?_
        refine v_dup2 dX4_ticks_202 rfl rfl ?_
        refine o_iald (j := 0) (u := w 0) (rfl : SH 111 = _) (by omega) (by omega) (by rw [hv]; first | done | (simp [sup]; done) | (simp only [sup]; repeat rw [if_neg (by omega)])) dX4_ticks_203 ?_
        refine v_iload_n 1 dX4_ticks_204 rfl rfl ?_
        refine v_iadd dX4_ticks_205 ?_
        refine o_iast (j := 0) (by omega) (rfl : SH 111 = _) (by omega) (by omega) dX4_ticks_206 ?_
        refine o_gw hF (by decide) hv (fun K hF hv he => ?_)
        have hLK := fr_lay hF hLM
        refine v_aload_n 0 dX4_ticks_207 rfl rfl ?_
        refine v_getR lk_X4_7 rfl (rfl : SH 110 = _) (mo_0 hLK) dX4_ticks_208 ?_
        refine v_iconst dX4_ticks_211 ?_
        refine o_iald (j := 0) (u := w 0 + sPart w) (rfl : SH 111 = _) (by omega) (by omega) (by rw [hv]; first | done | (simp [sup]; done) | (simp only [sup]; repeat rw [if_neg (by omega)])) dX4_ticks_212 ?_
        refine v_aload_n 0 dX4_ticks_213 rfl rfl ?_
        refine v_getR lk_X4_7 rfl (rfl : SH 110 = _) (mo_0 hLK) dX4_ticks_214 ?_
        refine v_iconst dX4_ticks_217 ?_
        refine o_iald (j := 5) (u := w (5)) (rfl : SH 111 = _) (by omega) (by omega) (by rw [hv]; first | done | (simp [sup]; done) | (simp only [sup]; repeat rw [if_neg (by omega)])) dX4_ticks_218 ?_
        refine v_isub dX4_ticks_219 ?_
        refine v_ist2 dX4_ticks_220 rfl ?_
        refine v_aload_n 0 dX4_ticks_221 rfl rfl ?_
        refine v_getR lk_X4_7 rfl (rfl : SH 110 = _) (mo_0 hLK) dX4_ticks_222 ?_
        refine v_bipush dX4_ticks_225 (by decide) ?_
        refine v_dup2 dX4_ticks_227 rfl rfl ?_
        refine o_iald (j := 16) (u := w (16)) (rfl : SH 111 = _) (by omega) (by omega) (by rw [hv]; first | done | (simp [sup]; done) | (simp only [sup]; repeat rw [if_neg (by omega)])) dX4_ticks_228 ?_
        refine v_iload_n 2 dX4_ticks_229 rfl rfl ?_
        have jn238 : ∀ z : Int, z = sOver w → vO x Q G cX4_ticks RX4 238 [some (aR (some 110)), some (aI (sPart w)), some (aI (w 0 + sPart w - w 5))] [aI z, aI (w 16), aI 16, aR (some 111)] K := by
          intro z hz
          subst hz
          refine v_iadd dX4_ticks_238 ?_
          refine o_iast (j := 16) (by omega) (rfl : SH 111 = _) (by omega) (by omega) dX4_ticks_239 ?_
          refine o_gw hF (by decide) hv (fun K hF hv he => ?_)
          have hLK := fr_lay hF hLM
          refine v_aload_n 0 dX4_ticks_240 rfl rfl ?_
          refine v_getR lk_X4_7 rfl (rfl : SH 110 = _) (mo_0 hLK) dX4_ticks_241 ?_
          refine v_iconst dX4_ticks_244 ?_
          refine v_dup2 dX4_ticks_245 rfl rfl ?_
          refine o_iald (j := 0) (u := w 0 + sPart w) (rfl : SH 111 = _) (by omega) (by omega) (by rw [hv]; first | done | (simp [sup]; done) | (simp only [sup]; repeat rw [if_neg (by omega)])) dX4_ticks_246 ?_
          refine v_iload_n 2 dX4_ticks_247 rfl rfl ?_
          have jn256 : ∀ z : Int, z = sOver w → vO x Q G cX4_ticks RX4 256 [some (aR (some 110)), some (aI (sPart w)), some (aI (w 0 + sPart w - w 5))] [aI z, aI (w 0 + sPart w), aI 0, aR (some 111)] K := by
            intro z hz
            subst hz
            refine v_isub dX4_ticks_256 ?_
            refine o_iast (j := 0) (by omega) (rfl : SH 111 = _) (by omega) (by omega) dX4_ticks_257 ?_
            refine o_gw hF (by decide) hv (fun K hF hv he => ?_)
            have hLK := fr_lay hF hLM
            first | exact jn258 _ _ _ _ hF hv (by rw [sPmp, ← hw, sMak, if_neg (by omega)]) | exact jn258 _ _ _ _ hF hv (by rw [sPmp, ← hw, sMak, if_pos (by omega)])
          refine v_if_le 255 dX4_ticks_248 (by decide) (by omega) (fun h248 => ?_) (fun h248 => ?_)
          · skip
            refine v_iconst dX4_ticks_255 ?_
            exact jn256 _ (by unfold sOver; omega)
          · skip
            refine v_iload_n 2 dX4_ticks_251 rfl rfl ?_
            refine v_goto 256 dX4_ticks_252 (by decide) ?_
            exact jn256 _ (by unfold sOver; omega)
        refine v_if_le 237 dX4_ticks_230 (by decide) (by omega) (fun h230 => ?_) (fun h230 => ?_)
        · skip
          refine v_iconst dX4_ticks_237 ?_
          exact jn238 _ (by unfold sOver; omega)
        · skip
          refine v_iload_n 2 dX4_ticks_233 rfl rfl ?_
          refine v_goto 238 dX4_ticks_234 (by decide) ?_
          exact jn238 _ (by unfold sOver; omega)
      refine v_icmp_ne 148 dX4_ticks_135 (by decide) (by omega) (by decide) (fun h135 => ?_) (fun h135 => ?_)
      · skip
        refine v_aload_n 0 dX4_ticks_148 rfl rfl ?_
        refine v_getR lk_X4_7 rfl (rfl : SH 110 = _) (mo_0 hLK) dX4_ticks_149 ?_
        refine v_bipush dX4_ticks_152 (by decide) ?_
        refine o_iald (j := 23) (u := w (23)) (rfl : SH 111 = _) (by omega) (by omega) (by rw [hv]; first | done | (simp [sup]; done) | (simp only [sup]; repeat rw [if_neg (by omega)])) dX4_ticks_154 ?_
        refine v_aload_n 0 dX4_ticks_155 rfl rfl ?_
        refine v_getR lk_X4_7 rfl (rfl : SH 110 = _) (mo_0 hLK) dX4_ticks_156 ?_
        refine v_bipush dX4_ticks_159 (by decide) ?_
        refine o_iald (j := 21) (u := w (21)) (rfl : SH 111 = _) (by omega) (by omega) (by rw [hv]; first | done | (simp [sup]; done) | (simp only [sup]; repeat rw [if_neg (by omega)])) dX4_ticks_161 ?_
        refine v_idiv dX4_ticks_162 (by omega) (by omega) (by omega) ?_
        first | with_reducible exact jn163 _ (sp_n h135 (by omega)) | with_reducible exact jn163 _ (sp_y h135)
      · skip
        refine v_aload_n 0 dX4_ticks_138 rfl rfl ?_
        refine v_getR lk_X4_7 rfl (rfl : SH 110 = _) (mo_0 hLK) dX4_ticks_139 ?_
        refine v_bipush dX4_ticks_142 (by decide) ?_
        refine o_iald (j := 20) (u := w (20)) (rfl : SH 111 = _) (by omega) (by omega) (by rw [hv]; first | done | (simp [sup]; done) | (simp only [sup]; repeat rw [if_neg (by omega)])) dX4_ticks_144 ?_
        refine v_goto 163 dX4_ticks_145 (by decide) ?_
        first | with_reducible exact jn163 _ (sp_n h135 (by omega)) | with_reducible exact jn163 _ (sp_y h135)
  refine v_if_ne 117 dX4_ticks_7 (by decide) (by omega) (fun h7 => ?_) (fun h7 => ?_)
  · skip
    first | exact jn117 _ _ hF hv (by rw [sBeg, if_neg (by omega)]) | exact jn117 _ _ hF hv (by rw [sBeg, if_pos ⟨by omega, by omega⟩])
  · skip
    refine v_aload_n 0 dX4_ticks_10 rfl rfl ?_
    refine v_getR lk_X4_7 rfl (rfl : SH 110 = _) (mo_0 hLM) dX4_ticks_11 ?_
    refine v_iconst dX4_ticks_14 ?_
    refine o_iald (j := 0) (u := v (0)) (rfl : SH 111 = _) (by omega) (by omega) (by rw [hv]; first | done | (simp [sup]; done) | (simp only [sup]; repeat rw [if_neg (by omega)])) dX4_ticks_15 ?_
    refine v_aload_n 0 dX4_ticks_16 rfl rfl ?_
    refine v_getR lk_X4_7 rfl (rfl : SH 110 = _) (mo_0 hLM) dX4_ticks_17 ?_
    refine v_bipush dX4_ticks_20 (by decide) ?_
    refine o_iald (j := 6) (u := v (6)) (rfl : SH 111 = _) (by omega) (by omega) (by rw [hv]; first | done | (simp [sup]; done) | (simp only [sup]; repeat rw [if_neg (by omega)])) dX4_ticks_22 ?_
    refine v_icmp_ge 117 dX4_ticks_23 (by decide) (by omega) (by omega) (fun h23 => ?_) (fun h23 => ?_)
    · skip
      first | exact jn117 _ _ hF hv (by rw [sBeg, if_neg (by omega)]) | exact jn117 _ _ hF hv (by rw [sBeg, if_pos ⟨by omega, by omega⟩])
    · skip
      refine v_aload_n 0 dX4_ticks_26 rfl rfl ?_
      refine v_getR lk_X4_7 rfl (rfl : SH 110 = _) (mo_0 hLM) dX4_ticks_27 ?_
      refine v_bipush dX4_ticks_30 (by decide) ?_
      refine v_aload_n 0 dX4_ticks_32 rfl rfl ?_
      refine v_getR lk_X4_7 rfl (rfl : SH 110 = _) (mo_0 hLM) dX4_ticks_33 ?_
      refine v_bipush dX4_ticks_36 (by decide) ?_
      refine o_iald (j := 17) (u := (((v 17).toNat : Nat) : Int)) (rfl : SH 111 = _) (by omega) (by omega) (by rw [hv]; omega) dX4_ticks_38 ?_
      refine v_iadd dX4_ticks_39 ?_
      refine v_dup2 dX4_ticks_40 rfl rfl ?_
      refine o_iald (j := 18 + ((v 17).toNat)) (u := v (18 + ((v 17).toNat))) (rfl : SH 111 = _) (by omega) (by omega) (by rw [hv]; first | done | (simp [sup]; done) | (simp only [sup]; repeat rw [if_neg (by omega)])) dX4_ticks_41 ?_
      refine v_iconst dX4_ticks_42 ?_
      refine v_iadd dX4_ticks_43 ?_
      refine o_iast (j := 18 + ((v 17).toNat)) (by omega) (rfl : SH 111 = _) (by omega) (by omega) dX4_ticks_44 ?_
      refine o_gw hF (by decide) hv (fun K hF hv he => ?_)
      have hLK := fr_lay hF hLM
      refine v_aload_n 0 dX4_ticks_45 rfl rfl ?_
      refine v_getR lk_X4_7 rfl (rfl : SH 110 = _) (mo_0 hLK) dX4_ticks_46 ?_
      refine v_bipush dX4_ticks_49 (by decide) ?_
      refine v_iconst dX4_ticks_51 ?_
      refine v_aload_n 0 dX4_ticks_52 rfl rfl ?_
      refine v_getR lk_X4_7 rfl (rfl : SH 110 = _) (mo_0 hLK) dX4_ticks_53 ?_
      refine v_bipush dX4_ticks_56 (by decide) ?_
      refine o_iald (j := 17) (u := v 17) (rfl : SH 111 = _) (by omega) (by omega) (by rw [hv]; first | done | (simp [sup]; done) | (simp only [sup]; repeat rw [if_neg (by omega)])) dX4_ticks_58 ?_
      refine v_isub dX4_ticks_59 ?_
      refine o_iast (j := 17) (by omega) (rfl : SH 111 = _) (by omega) (by omega) dX4_ticks_60 ?_
      refine o_gw hF (by decide) hv (fun K hF hv he => ?_)
      have hLK := fr_lay hF hLM
      refine v_aload_n 0 dX4_ticks_61 rfl rfl ?_
      refine v_getR lk_X4_7 rfl (rfl : SH 110 = _) (mo_0 hLK) dX4_ticks_62 ?_
      refine v_bipush dX4_ticks_65 (by decide) ?_
      refine v_aload_n 0 dX4_ticks_67 rfl rfl ?_
      refine v_getR lk_X4_7 rfl (rfl : SH 110 = _) (mo_0 hLK) dX4_ticks_68 ?_
      refine v_bipush dX4_ticks_71 (by decide) ?_
      refine o_iald (j := 7) (u := v (7)) (rfl : SH 111 = _) (by omega) (by omega) (by rw [hv]; first | done | (simp [sup]; done) | (simp only [sup]; repeat rw [if_neg (by omega)])) dX4_ticks_73 ?_
      refine o_iast (j := 23) (by omega) (rfl : SH 111 = _) (by omega) (by omega) dX4_ticks_74 ?_
      refine o_gw hF (by decide) hv (fun K hF hv he => ?_)
      have hLK := fr_lay hF hLM
      refine v_aload_n 0 dX4_ticks_75 rfl rfl ?_
      refine v_getR lk_X4_7 rfl (rfl : SH 110 = _) (mo_0 hLK) dX4_ticks_76 ?_
      refine v_bipush dX4_ticks_79 (by decide) ?_
      refine v_aload_n 0 dX4_ticks_81 rfl rfl ?_
      refine v_getR lk_X4_7 rfl (rfl : SH 110 = _) (mo_0 hLK) dX4_ticks_82 ?_
      refine v_bipush dX4_ticks_85 (by decide) ?_
      refine o_iald (j := 7) (u := v (7)) (rfl : SH 111 = _) (by omega) (by omega) (by rw [hv]; first | done | (simp [sup]; done) | (simp only [sup]; repeat rw [if_neg (by omega)])) dX4_ticks_87 ?_
      refine o_iast (j := 20) (by omega) (rfl : SH 111 = _) (by omega) (by omega) dX4_ticks_88 ?_
      refine o_gw hF (by decide) hv (fun K hF hv he => ?_)
      have hLK := fr_lay hF hLM
      refine v_aload_n 0 dX4_ticks_89 rfl rfl ?_
      refine v_getR lk_X4_7 rfl (rfl : SH 110 = _) (mo_0 hLK) dX4_ticks_90 ?_
      refine v_bipush dX4_ticks_93 (by decide) ?_
      refine v_aload_n 0 dX4_ticks_95 rfl rfl ?_
      refine v_getR lk_X4_7 rfl (rfl : SH 110 = _) (mo_0 hLK) dX4_ticks_96 ?_
      refine v_bipush dX4_ticks_99 (by decide) ?_
      refine o_iald (j := 8) (u := v (8)) (rfl : SH 111 = _) (by omega) (by omega) (by rw [hv]; first | done | (simp [sup]; done) | (simp only [sup]; repeat rw [if_neg (by omega)])) dX4_ticks_101 ?_
      refine o_iast (j := 21) (by omega) (rfl : SH 111 = _) (by omega) (by omega) dX4_ticks_102 ?_
      refine o_gw hF (by decide) hv (fun K hF hv he => ?_)
      have hLK := fr_lay hF hLM
      refine v_aload_n 0 dX4_ticks_103 rfl rfl ?_
      refine v_getR lk_X4_7 rfl (rfl : SH 110 = _) (mo_0 hLK) dX4_ticks_104 ?_
      refine v_bipush dX4_ticks_107 (by decide) ?_
      refine v_aload_n 0 dX4_ticks_109 rfl rfl ?_
      refine v_getR lk_X4_7 rfl (rfl : SH 110 = _) (mo_0 hLK) dX4_ticks_110 ?_
      refine v_bipush dX4_ticks_113 (by decide) ?_
      refine o_iald (j := 8) (u := v (8)) (rfl : SH 111 = _) (by omega) (by omega) (by rw [hv]; first | done | (simp [sup]; done) | (simp only [sup]; repeat rw [if_neg (by omega)])) dX4_ticks_115 ?_
      refine o_iast (j := 22) (by omega) (rfl : SH 111 = _) (by omega) (by omega) dX4_ticks_116 ?_
      refine o_gw hF (by decide) hv (fun K hF hv he => ?_)
      have hLK := fr_lay hF hLM
      first | exact jn117 _ _ hF hv (by rw [sBeg, if_neg (by omega)]) | exact jn117 _ _ hF hv (by rw [sBeg, if_pos ⟨by omega, by omega⟩])
set_option maxRecDepth 100000 in
set_option maxHeartbeats 400000 in
theorem c_X4_passes {l : Launch} {G : vGG} {M : Mem} {v : Sg} (hLM : LayM M.2) (hv : M.1 111 = v) (hI : sInv v) {n : Nat} (hn : n ≤ 1000) : Co l yX4_passes cX4_passes 3 (some .int) (rmo 4 92) G [aR (some 110), aI (n : Int)] M (fun r M' => r = some (aI (sTks v n 0)) ∧ fr [111, 120, 121, 122, 123, 124, 125] M M' ∧ M'.1 111 = sTks v n) := by
  refine Co.ofV (plainFor_of_name (by decide)) rfl rfl ?_
  intro x hxl hxR hlk hrt Q hQ
  show vO x Q G cX4_passes RX4 0 [some (aR (some 110)), some (aI (n : Int)), none] [] M
  refine v_iconst dX4_passes_0 ?_
  refine v_ist2 dX4_passes_1 rfl ?_
  have lp2 : ∀ (dd j : Nat) (K : Mem), j + dd = n → fr [111, 120, 121, 122, 123, 124, 125] M K → K.1 111 = sTks v j → vO x Q G cX4_passes RX4 2 [some (aR (some 110)), some (aI (n : Int)), some (aI (j : Int))] [] K := by
    intro dd
    induction dd with
    | zero =>
      intro j K hd hF hv2
      have hLK := fr_lay hF hLM
      obtain rfl : j = n := by omega
      refine v_iload_n 2 dX4_passes_2 rfl rfl ?_
      refine v_iload_n 1 dX4_passes_3 rfl rfl ?_
      refine v_icmp_ge 17 dX4_passes_4 (by decide) (by omega) (by omega) (fun h4 => ?_) (fun h4 => ?_)
      · skip
        refine v_aload_n 0 dX4_passes_17 rfl rfl ?_
        refine v_getR lk_X4_7 rfl (rfl : SH 110 = _) (mo_0 hLK) dX4_passes_18 ?_
        refine v_iconst dX4_passes_21 ?_
        refine o_iald (j := 0) (u := sTks v j 0) (rfl : SH 111 = _) (by omega) (by omega) (by rw [hv2]) dX4_passes_22 ?_
        refine o_iret hQ hlk hrt dX4_passes_23 ?_
        exact ⟨rfl, hF, hv2⟩
      · skip
        exact absurd h4 (by omega)
    | succ dd ih =>
      intro j K hd hF hv2
      have hLK := fr_lay hF hLM
      refine v_iload_n 2 dX4_passes_2 rfl rfl ?_
      refine v_iload_n 1 dX4_passes_3 rfl rfl ?_
      refine v_icmp_ge 17 dX4_passes_4 (by decide) (by omega) (by omega) (fun h4 => ?_) (fun h4 => ?_)
      · skip
        exact absurd h4 (by omega)
      · skip
        refine v_aload_n 0 dX4_passes_7 rfl rfl ?_
        refine oVm0 4 (c_X4_ticks hLK hv2 (sTks_inv hI j)) k0_X4_ticks ki_X4_ticks ml_X4_134 (rfl : SH 110 = _) (by decide) (vRo_of hxR (by decide) (by decide)) dX4_passes_8 (Nat.le_of_ble_eq_true rfl) (fun N hN => ?_)
        obtain ⟨hF2, hv2⟩ := hN
        have hF := fr_tr hF hF2 (fun i h => h)
        refine v_iinc2 dX4_passes_11 rfl ?_
        refine v_goto 2 dX4_passes_14 (by decide) ?_
        exact ih (j + 1) N (by omega) hF hv2
  exact lp2 n 0 M (by omega) fr_rf hv
