/-! ===== the twin: lays ===== -/
def SC4 (v : Sg) (st : Nat) (pr : Bool) (N : Mem) : Prop := (∀ m, m < 2 → N.1 120 m = ((sAct v pr m : Nat) : Int)) ∧ (∀ s, s < 8 → N.1 121 s = ((sOpn v st pr s : Nat) : Int)) ∧ (∀ m, m < 2 → N.1 122 m = sNs v st pr m 192) ∧ (∀ m, m < 2 → N.1 123 m = sPr v st pr m)
/-- what lays has laid -/
def SC (v : Sg) (st : Nat) (pr : Bool) (N : Mem) : Prop := SC4 v st pr N ∧ (∀ p, p < 192 → N.1 124 p = sAs v st pr p) ∧ ∀ p, p < 192 → N.1 125 p = sGt v st pr p
theorem SC4.keep {v : Sg} {st : Nat} {pr : Bool} {N N' : Mem} (h : SC4 v st pr N) (h2 : fr [124, 125] N N') : SC4 v st pr N' := by
  obtain ⟨a, b, c, d⟩ := h
  refine ⟨?_, ?_, ?_, ?_⟩
  · rw [h2.2 120 (by decide)]; exact a
  · rw [h2.2 121 (by decide)]; exact b
  · rw [h2.2 122 (by decide)]; exact c
  · rw [h2.2 123 (by decide)]; exact d
theorem op_1 {v : Sg} (h : sInv v) {st s : Nat} {pr : Bool} (hs : s < 8) (hb : st.testBit s = true) : vor ((sAct v pr (sMan v s) : Nat) : Int) (v (256 + s)) = ((sOpn v st pr s : Nat) : Int) := by
  have h1 := sAct_lt h pr (sMan v s)
  have h2 := (iv_st h hs).2.2.2.2
  rw [nu_or (by omega) (by omega) (by omega) (by omega), Int.toNat_natCast, sOpn, if_pos hb]
theorem op_0 {v : Sg} {st s : Nat} {pr : Bool} (hb : ¬ st.testBit s = true) : (0 : Int) = ((sOpn v st pr s : Nat) : Int) := by
  rw [sOpn, if_neg hb]
  rfl
theorem na_1 {v : Sg} {st s k : Nat} {pr : Bool} (hb : (sOpn v st pr s).testBit k = true) : sNeed v s k = sNa v st pr s k := by rw [sNa, if_pos hb]
theorem na_0 {v : Sg} {st s k : Nat} {pr : Bool} (hb : ¬ (sOpn v st pr s).testBit k = true) : (0 : Int) = sNa v st pr s k := by rw [sNa, if_neg hb]
theorem ak_1 {v : Sg} (h : sInv v) {st s k : Nat} {pr : Bool} (hs : s < 8) (hk : k < 24) (hb : (sOpn v st pr s).testBit k = true) : (sNeed v s k * sPr v st pr (sMan v s)).tdiv (v 1) = sAk v st pr s k := by
  have h1 := sNeed_b h hs hk
  have h2 := sPr_b h st pr (sMan_lt h hs).1
  rw [sAk, if_pos hb, nu_tdiv (Int.mul_nonneg (by omega) (by omega))]
theorem ak_0 {v : Sg} {st s k : Nat} {pr : Bool} (hb : ¬ (sOpn v st pr s).testBit k = true) : (0 : Int) = sAk v st pr s k := by rw [sAk, if_neg hb]
theorem ak_R {v : Sg} (h : sInv v) {st s k : Nat} {pr : Bool} (hs : s < 8) (hk : k < 24) : R32 (sNeed v s k * sPr v st pr (sMan v s)) := by
  have h1 := sNeed_b h hs hk
  have h2 := sPr_b h st pr (sMan_lt h hs).1
  have h3 := iv_set h
  have h4 : 0 ≤ sNeed v s k * sPr v st pr (sMan v s) := Int.mul_nonneg (by omega) (by omega)
  have h5 : sNeed v s k * sPr v st pr (sMan v s) ≤ sNeed v s k * 200 := Int.mul_le_mul_of_nonneg_left (by omega) (by omega)
  omega
theorem nl_b {v : Sg} (h : sInv v) {st m : Nat} {pr : Bool} (hm : m < 2) : 0 ≤ sNs v st pr m 192 * v (2 + m) ∧ sNs v st pr m 192 * v (2 + m) ≤ 900000 := by
  have h2 := sNs_b h st pr m 192 (Nat.le_refl _)
  have h3 := iv_los h hm
  refine ⟨Int.mul_nonneg h2.1 h3.1, ?_⟩
  have h4 : sNs v st pr m 192 * v (2 + m) ≤ sNs v st pr m 192 * 100 := Int.mul_le_mul_of_nonneg_left (by omega) (by omega)
  omega
theorem nd_up {v : Sg} {st s k : Nat} {pr : Bool} {N : Mem} (hk : k < 24) (hn : ∀ m, m < 2 → N.1 122 m = sNs v st pr m (24 * s + k)) (m : Nat) (hm : m < 2) : vup N.1 122 (sMan v s) (sNs v st pr (sMan v s) (24 * s + k) + sNa v st pr s k) 122 m = sNs v st pr m (24 * s + (k + 1)) := by
  rw [vup_in, sNs_step _ _ _ _ _ hk]
  by_cases h : m = sMan v s
  · subst h
    rw [if_pos rfl, if_pos rfl]
  · rw [if_neg h, if_neg (fun q => h q.symm), hn m hm]
    omega
theorem as_up {v : Sg} {st s k : Nat} {pr : Bool} {f : Nat → Int} (hk : k < 24) (h : ∀ p, p < 24 * s + k → f p = sAs v st pr p) (p : Nat) (hp : p < 24 * s + (k + 1)) : (if p = 24 * s + k then sAk v st pr s k else f p) = sAs v st pr p := by
  by_cases e : p = 24 * s + k
  · rw [if_pos e, e, sAs_at _ _ _ _ hk]
  · rw [if_neg e]; exact h p (by omega)
theorem gt_up {v : Sg} {st s k : Nat} {pr : Bool} {f : Nat → Int} (hk : k < 24) (h : ∀ p, p < 24 * s + k → f p = sGt v st pr p) (p : Nat) (hp : p < 24 * s + (k + 1)) : (if p = 24 * s + k then min (sAk v st pr s k) (sLf v st pr (24 * s + k)) else f p) = sGt v st pr p := by
  by_cases e : p = 24 * s + k
  · rw [if_pos e, e, sGt, sAs_at _ _ _ _ hk]
  · rw [if_neg e]; exact h p (by omega)
set_option maxRecDepth 100000 in
set_option maxHeartbeats 400000 in
theorem c_X4_lays_t {l : Launch} {G : vGG} {M : Mem} {v : Sg} (hLM : LayM M.2) (hv : M.1 111 = v) (hI : sInv v) {st : Nat} (hst : st < 256) : Co l yX4_lays cX4_lays 8 none (rmo 1 23) G [aR (some 110), aI (st : Int), aI 1] M (fun r M' => r = none ∧ fr [120, 121, 122, 123, 124, 125] M M' ∧ SC v st true M') := by
  refine Co.ofV (plainFor_of_name (by decide)) rfl rfl ?_
  intro x hxl hxR hlk hrt Q hQ
  show vO x Q G cX4_lays RX4 0 [some (aR (some 110)), some (aI (st : Int)), some (aI 1), none, none, none, none, none] [] M
  refine v_aload_n 0 dX4_lays_0 rfl rfl ?_
  refine v_iload_n 2 dX4_lays_1 rfl rfl ?_
  refine oVp1 4 (c_X4_acts_t hLM hv hI) k0_X4_acts ki_X4_acts ml_X4_107 (rfl : SH 110 = _) (by decide) (vRo_of hxR (by decide) (by decide)) dX4_lays_2 (Nat.le_of_ble_eq_true rfl) (fun r N hN => ?_)
  obtain ⟨rfl, hF1, hac⟩ := hN
  have hFN : fr [120, 121, 122, 123, 124, 125] M N := fr_tr fr_rf hF1 (by decide)
  have hLN := fr_lay hFN hLM
  have hvN : N.1 111 = v := (hFN.2 111 (by decide)).trans hv
  show vO x Q G cX4_lays RX4 5 [some (aR (some 110)), some (aI (st : Int)), some (aI 1), none, none, none, none, none] [] N
  refine v_aload_n 0 dX4_lays_5 rfl rfl ?_
  refine v_getR lk_X4_44 rfl (rfl : SH 110 = _) (mo_13 hLN) dX4_lays_6 ?_
  refine v_iconst dX4_lays_9 ?_
  refine v_iconst dX4_lays_10 ?_
  refine o_iast (j := 0) (by omega) (rfl : SH 122 = _) (by omega) (by omega) dX4_lays_11 ?_
  refine v_aload_n 0 dX4_lays_12 rfl rfl ?_
  refine v_getR lk_X4_44 rfl (rfl : SH 110 = _) (mo_13 hLN) dX4_lays_13 ?_
  refine v_iconst dX4_lays_16 ?_
  refine v_iconst dX4_lays_17 ?_
  refine o_iast (j := 1) (by omega) (rfl : SH 122 = _) (by omega) (by omega) dX4_lays_18 ?_
  refine v_iconst dX4_lays_19 ?_
  refine v_ist3 dX4_lays_20 rfl ?_
  have lp21 : ∀ (dd s : Nat) (K : Mem) (c4 c5 : Option AV), s + dd = 8 → fr [120, 121, 122, 123, 124, 125] M K → (∀ m, m < 2 → K.1 120 m = ((sAct v true m : Nat) : Int)) → (∀ j, j < s → K.1 121 j = ((sOpn v st true j : Nat) : Int)) → (∀ m, m < 2 → K.1 122 m = sNs v st true m (24 * s)) → vO x Q G cX4_lays RX4 21 [some (aR (some 110)), some (aI (st : Int)), some (aI 1), some (aI (s : Int)), c4, c5, none, none] [] K := by
    intro dd
    induction dd with
    | zero =>
      intro s K c4 c5 hd hFK hacK hopK hndK
      have hLK := fr_lay hFK hLM
      have hvK : K.1 111 = v := (hFK.2 111 (by decide)).trans hv
      refine v_iload_n 3 dX4_lays_21 rfl rfl ?_
      refine v_bipush dX4_lays_22 (by decide) ?_
      refine v_icmp_ge 135 dX4_lays_24 (by decide) (by omega) (by decide) (fun h24 => ?_) (fun h24 => ?_)
      · skip
        refine v_iconst dX4_lays_135 ?_
        refine v_ist3 dX4_lays_136 rfl ?_
        have lp137 : ∀ (dd m : Nat) (N : Mem) (c4 c5 : Option AV), m + dd = 2 → fr [120, 121, 122, 123, 124, 125] M N → (∀ m, m < 2 → N.1 120 m = ((sAct v true m : Nat) : Int)) → (∀ j, j < 8 → N.1 121 j = ((sOpn v st true j : Nat) : Int)) → (∀ m, m < 2 → N.1 122 m = sNs v st true m 192) → (∀ j, j < m → N.1 123 j = sPr v st true j) → vO x Q G cX4_lays RX4 137 [some (aR (some 110)), some (aI (st : Int)), some (aI 1), some (aI (m : Int)), c4, c5, none, none] [] N := by
          intro dd
          induction dd with
          | zero =>
            intro m N c4 c5 hd hFN hacN hopN hndN hprN
            have hLN := fr_lay hFN hLM
            have hvN : N.1 111 = v := (hFN.2 111 (by decide)).trans hv
            refine v_iload_n 3 dX4_lays_137 rfl rfl ?_
            refine v_iconst dX4_lays_138 ?_
            refine v_icmp_ge 190 dX4_lays_139 (by decide) (by omega) (by decide) (fun h139 => ?_) (fun h139 => ?_)
            · skip
              refine v_aload_n 0 dX4_lays_190 rfl rfl ?_
              refine v_getR lk_X4_7 rfl (rfl : SH 110 = _) (mo_0 hLN) dX4_lays_191 ?_
              refine v_iconst dX4_lays_194 ?_
              refine o_iald (j := 0) (u := v (0)) (rfl : SH 111 = _) (by omega) (by omega) (by rw [hvN]) dX4_lays_195 ?_
              refine v_ist3 dX4_lays_196 rfl ?_
              refine v_iconst dX4_lays_197 ?_
              refine v_ist4 dX4_lays_198 rfl ?_
              have lp200 : ∀ (dd s : Nat) (K : Mem) (c5 c6 c7 : Option AV), s + dd = 8 → fr [120, 121, 122, 123, 124, 125] M K → SC4 v st true K → (∀ p, p < 24 * s → K.1 124 p = sAs v st true p) → (∀ p, p < 24 * s → K.1 125 p = sGt v st true p) → vO x Q G cX4_lays RX4 200 [some (aR (some 110)), some (aI (st : Int)), some (aI 1), some (aI (sLf v st true (24 * s))), some (aI (s : Int)), c5, c6, c7] [] K := by
                intro dd
                induction dd with
                | zero =>
                  intro s K c5 c6 c7 hd hFK h4K haK hgK
                  have hLK := fr_lay hFK hLM
                  have hvK : K.1 111 = v := (hFK.2 111 (by decide)).trans hv
                  refine v_iload dX4_lays_200 rfl ?_
                  refine v_bipush dX4_lays_202 (by decide) ?_
                  refine v_icmp_ge 333 dX4_lays_204 (by decide) (by omega) (by decide) (fun h204 => ?_) (fun h204 => ?_)
                  · skip
                    refine o_ret hQ hlk hrt dX4_lays_333 ?_
                    exact ⟨rfl, hFK, h4K, fun p hp => haK p (by omega), fun p hp => hgK p (by omega)⟩
                  · skip
                    exact absurd h204 (by omega)
                | succ dd ih =>
                  intro s K c5 c6 c7 hd hFK h4K haK hgK
                  have hLK := fr_lay hFK hLM
                  have hvK : K.1 111 = v := (hFK.2 111 (by decide)).trans hv
                  refine v_iload dX4_lays_200 rfl ?_
                  refine v_bipush dX4_lays_202 (by decide) ?_
                  refine v_icmp_ge 333 dX4_lays_204 (by decide) (by omega) (by decide) (fun h204 => ?_) (fun h204 => ?_)
                  · skip
                    exact absurd h204 (by omega)
                  · skip
                    have hs : s < 8 := by omega
                    have hmn := sMan_lt hI hs
                    refine v_iconst dX4_lays_207 ?_
                    refine v_ist5 dX4_lays_208 rfl ?_
                    have lp210 : ∀ (dd k : Nat) (N : Mem) (c6 c7 : Option AV), k + dd = 24 → fr [120, 121, 122, 123, 124, 125] M N → SC4 v st true N → (∀ p, p < 24 * s + k → N.1 124 p = sAs v st true p) → (∀ p, p < 24 * s + k → N.1 125 p = sGt v st true p) → vO x Q G cX4_lays RX4 210 [some (aR (some 110)), some (aI (st : Int)), some (aI 1), some (aI (sLf v st true (24 * s + k))), some (aI (s : Int)), some (aI (k : Int)), c6, c7] [] N := by
                      intro dd
                      induction dd with
                      | zero =>
                        intro k N c6 c7 hd2 hFN h4N haN hgN
                        have hLN := fr_lay hFN hLM
                        have hvN : N.1 111 = v := (hFN.2 111 (by decide)).trans hv
                        refine v_iload dX4_lays_210 rfl ?_
                        refine v_bipush dX4_lays_212 (by decide) ?_
                        refine v_icmp_ge 327 dX4_lays_214 (by decide) (by omega) (by decide) (fun h214 => ?_) (fun h214 => ?_)
                        · skip
                          refine v_iinc4 dX4_lays_327 rfl ?_
                          refine v_goto 200 dX4_lays_330 (by decide) ?_
                          rw [show 24 * s + k = 24 * (s + 1) by omega] at haN hgN ⊢
                          exact ih (s + 1) N _ _ _ (by omega) hFN h4N haN hgN
                        · skip
                          exact absurd h214 (by omega)
                      | succ dd ih =>
                        intro k N c6 c7 hd2 hFN h4N haN hgN
                        have hLN := fr_lay hFN hLM
                        have hvN : N.1 111 = v := (hFN.2 111 (by decide)).trans hv
                        refine v_iload dX4_lays_210 rfl ?_
                        refine v_bipush dX4_lays_212 (by decide) ?_
                        refine v_icmp_ge 327 dX4_lays_214 (by decide) (by omega) (by decide) (fun h214 => ?_) (fun h214 => ?_)
                        · skip
                          exact absurd h214 (by omega)
                        · skip
                          have hk : k < 24 := by omega
                          have hol := sOpn_lt hI st true hs
                          have hlf := sLf_b hI st true (24 * s + k) (by omega)
                          have hak := sAk_b hI st true hs hk
                          have hs1 := iv_set hI
                          have hb1 := iv_bel hI
                          refine v_aload_n 0 dX4_lays_217 rfl rfl ?_
                          refine v_getR lk_X4_41 rfl (rfl : SH 110 = _) (mo_12 hLN) dX4_lays_218 ?_
                          refine v_iload dX4_lays_221 rfl ?_
                          refine o_iald (j := s) (u := ((sOpn v st true (s) : Nat) : Int)) (rfl : SH 121 = _) (by omega) (by omega) (h4N.2.1 _ (by omega)) dX4_lays_223 ?_
                          refine v_iload dX4_lays_224 rfl ?_
                          refine v_ishr dX4_lays_226 ?_
                          refine v_iconst dX4_lays_227 ?_
                          refine v_iand dX4_lays_228 ?_
                          refine o_eqI (nu_bitN (n := sOpn v st true s) (by omega) (by omega)) ?_
                          refine v_iconst dX4_lays_229 ?_
                          have jn270 : ∀ z : Int, z = sAk v st true s k → vO x Q G cX4_lays RX4 270 [some (aR (some 110)), some (aI (st : Int)), some (aI 1), some (aI (sLf v st true (24 * s + k))), some (aI (s : Int)), some (aI (k : Int)), c6, c7] [aI z] N := by
                            intro z hz
                            subst hz
                            refine v_ist6 dX4_lays_270 rfl ?_
                            refine v_iload dX4_lays_272 rfl ?_
                            refine v_iload_n 3 dX4_lays_274 rfl rfl ?_
                            have jn284 : ∀ z : Int, z = min (sAk v st true s k) (sLf v st true (24 * s + k)) → vO x Q G cX4_lays RX4 284 [some (aR (some 110)), some (aI (st : Int)), some (aI 1), some (aI (sLf v st true (24 * s + k))), some (aI (s : Int)), some (aI (k : Int)), some (aI (sAk v st true s k)), c7] [aI z] N := by
                              intro z hz
                              subst hz
                              refine v_ist7 dX4_lays_284 rfl ?_
                              refine v_aload_n 0 dX4_lays_286 rfl rfl ?_
                              refine v_getR lk_X4_50 rfl (rfl : SH 110 = _) (mo_15 hLN) dX4_lays_287 ?_
                              refine v_bipush dX4_lays_290 (by decide) ?_
                              refine v_iload dX4_lays_292 rfl ?_
                              refine v_imul dX4_lays_294 ?_
                              refine v_iload dX4_lays_295 rfl ?_
                              refine v_iadd dX4_lays_297 ?_
                              refine v_iload dX4_lays_298 rfl ?_
                              refine o_iast (j := (24 * s) + k) (by omega) (rfl : SH 124 = _) (by omega) (by omega) dX4_lays_300 ?_
                              refine v_aload_n 0 dX4_lays_301 rfl rfl ?_
                              refine v_getR lk_X4_53 rfl (rfl : SH 110 = _) (mo_16 hLN) dX4_lays_302 ?_
                              refine v_bipush dX4_lays_305 (by decide) ?_
                              refine v_iload dX4_lays_307 rfl ?_
                              refine v_imul dX4_lays_309 ?_
                              refine v_iload dX4_lays_310 rfl ?_
                              refine v_iadd dX4_lays_312 ?_
                              refine v_iload dX4_lays_313 rfl ?_
                              refine o_iast (j := (24 * s) + k) (by omega) (rfl : SH 125 = _) (by omega) (by omega) dX4_lays_315 ?_
                              refine v_iload_n 3 dX4_lays_316 rfl rfl ?_
                              refine v_iload dX4_lays_317 rfl ?_
                              refine v_isub dX4_lays_319 ?_
                              refine v_ist3 dX4_lays_320 rfl ?_
                              refine v_iinc5 dX4_lays_321 rfl ?_
                              refine v_goto 210 dX4_lays_324 (by decide) ?_
                              rw [← sLf_step v st true s hk]
                              exact ih (k + 1) _ _ _ (by omega) (fr_up (fr_up hFN (by decide) _ _) (by decide) _ _) (h4N.keep (fr_up (fr_up fr_rf (by decide) _ _) (by decide) _ _)) (fun p hp => by simpa [vup] using as_up hk haN p hp) (fun p hp => by simpa [vup] using gt_up hk hgN p hp)
                            refine v_icmp_ge 283 dX4_lays_275 (by decide) (by omega) (by omega) (fun h275 => ?_) (fun h275 => ?_)
                            · skip
                              refine v_iload_n 3 dX4_lays_283 rfl rfl ?_
                              exact jn284 _ (by omega)
                            · skip
                              refine v_iload dX4_lays_278 rfl ?_
                              refine v_goto 284 dX4_lays_280 (by decide) ?_
                              exact jn284 _ (by omega)
                          refine v_icmp_ne 269 dX4_lays_230 (by decide) (bP_R _) (by decide) (fun h230 => ?_) (fun h230 => ?_)
                          · skip
                            refine v_iconst dX4_lays_269 ?_
                            first | with_reducible exact jn270 _ (ak_1 hI hs hk (bP_1.mp h230)) | with_reducible exact jn270 _ (ak_0 (mt bP_1.mpr h230))
                          · skip
                            refine v_aload_n 0 dX4_lays_233 rfl rfl ?_
                            refine v_iload dX4_lays_234 rfl ?_
                            refine v_iload dX4_lays_236 rfl ?_
                            refine oVv2 4 (c_X4_need hLN hvN hI hs hk) k0_X4_need ki_X4_need ml_X4_111 (rfl : SH 110 = _) (by decide) (vRo_of hxR (by decide) (by decide)) dX4_lays_238 (Nat.le_of_ble_eq_true rfl) ?_
                            refine v_aload_n 0 dX4_lays_241 rfl rfl ?_
                            refine v_getR lk_X4_47 rfl (rfl : SH 110 = _) (mo_14 hLN) dX4_lays_242 ?_
                            refine v_aload_n 0 dX4_lays_245 rfl rfl ?_
                            refine v_getR lk_X4_7 rfl (rfl : SH 110 = _) (mo_0 hLN) dX4_lays_246 ?_
                            refine v_bipush dX4_lays_249 (by decide) ?_
                            refine v_iconst dX4_lays_251 ?_
                            refine v_iload dX4_lays_252 rfl ?_
                            refine v_imul dX4_lays_254 ?_
                            refine v_iadd dX4_lays_255 ?_
                            refine o_iald (j := 24 + (5 * s)) (u := ((sMan v s : Nat) : Int)) (rfl : SH 111 = _) (by omega) (by omega) (by rw [hvN]; exact hmn.2) dX4_lays_256 ?_
                            refine o_iald (j := sMan v s) (u := sPr v st true (sMan v s)) (rfl : SH 123 = _) (by omega) (by omega) (h4N.2.2.2 _ hmn.1) dX4_lays_257 ?_
                            refine v_imul dX4_lays_258 ?_
                            refine v_aload_n 0 dX4_lays_259 rfl rfl ?_
                            refine v_getR lk_X4_7 rfl (rfl : SH 110 = _) (mo_0 hLN) dX4_lays_260 ?_
                            refine v_iconst dX4_lays_263 ?_
                            refine o_iald (j := 1) (u := v (1)) (rfl : SH 111 = _) (by omega) (by omega) (by rw [hvN]) dX4_lays_264 ?_
                            refine v_idiv dX4_lays_265 (ak_R hI hs hk) (by omega) (by omega) ?_
                            refine v_goto 270 dX4_lays_266 (by decide) ?_
                            first | with_reducible exact jn270 _ (ak_1 hI hs hk (bP_1.mp h230)) | with_reducible exact jn270 _ (ak_0 (mt bP_1.mpr h230))
                    exact lp210 24 0 _ _ _ rfl hFK h4K haK hgK
              exact lp200 8 0 _ _ _ _ rfl hFN ⟨hacN, hopN, hndN, fun j hj => hprN j (by omega)⟩ (fun p hp => absurd hp (by omega)) (fun p hp => absurd hp (by omega))
            · skip
              exact absurd h139 (by omega)
          | succ dd ih =>
            intro m N c4 c5 hd hFN hacN hopN hndN hprN
            have hLN := fr_lay hFN hLM
            have hvN : N.1 111 = v := (hFN.2 111 (by decide)).trans hv
            refine v_iload_n 3 dX4_lays_137 rfl rfl ?_
            refine v_iconst dX4_lays_138 ?_
            refine v_icmp_ge 190 dX4_lays_139 (by decide) (by omega) (by decide) (fun h139 => ?_) (fun h139 => ?_)
            · skip
              exact absurd h139 (by omega)
            · skip
              have hm2 : m < 2 := by omega
              have hnl := nl_b hI (st := st) (pr := true) hm2
              have hr1 := sRes_b hI
              have hs1 := iv_set hI
              refine v_aload_n 0 dX4_lays_142 rfl rfl ?_
              refine oVv0 4 (c_X4_reservoir hLN hvN hI) k0_X4_reservoir ki_X4_reservoir ml_X4_114 (rfl : SH 110 = _) (by decide) (vRo_of hxR (by decide) (by decide)) dX4_lays_143 (Nat.le_of_ble_eq_true rfl) ?_
              refine v_aload_n 0 dX4_lays_146 rfl rfl ?_
              refine v_getR lk_X4_44 rfl (rfl : SH 110 = _) (mo_13 hLN) dX4_lays_147 ?_
              refine v_iload_n 3 dX4_lays_150 rfl rfl ?_
              refine o_iald (j := m) (u := sNs v st true m 192) (rfl : SH 122 = _) (by omega) (by omega) (hndN _ hm2) dX4_lays_151 ?_
              refine v_aload_n 0 dX4_lays_152 rfl rfl ?_
              refine v_getR lk_X4_7 rfl (rfl : SH 110 = _) (mo_0 hLN) dX4_lays_153 ?_
              refine v_iconst dX4_lays_156 ?_
              refine v_iload_n 3 dX4_lays_157 rfl rfl ?_
              refine v_iadd dX4_lays_158 ?_
              refine o_iald (j := 2 + m) (u := v (2 + m)) (rfl : SH 111 = _) (by omega) (by omega) (by rw [hvN]) dX4_lays_159 ?_
              refine v_imul dX4_lays_160 ?_
              refine v_bipush dX4_lays_161 (by decide) ?_
              refine v_idiv dX4_lays_163 (by omega) (by decide) (by omega) ?_
              refine o_eqI (nu_tdiv hnl.1) ?_
              refine v_isub dX4_lays_164 ?_
              refine v_ist4 dX4_lays_165 rfl ?_
              refine v_aload_n 0 dX4_lays_167 rfl rfl ?_
              refine v_getR lk_X4_47 rfl (rfl : SH 110 = _) (mo_14 hLN) dX4_lays_168 ?_
              refine v_iload_n 3 dX4_lays_171 rfl rfl ?_
              refine v_iload dX4_lays_172 rfl ?_
              have jn183 : ∀ z : Int, z = sPr v st true m → vO x Q G cX4_lays RX4 183 [some (aR (some 110)), some (aI (st : Int)), some (aI 1), some (aI (m : Int)), some (aI (sRes v - sNs v st true m 192 * v (2 + m) / 100)), c5, none, none] [aI z, aI (m : Int), aR (some 123)] N := by
                intro z hz
                subst hz
                refine o_iast (j := m) (by omega) (rfl : SH 123 = _) (by omega) (by omega) dX4_lays_183 ?_
                refine v_iinc3 dX4_lays_184 rfl ?_
                refine v_goto 137 dX4_lays_187 (by decide) ?_
                exact ih (m + 1) _ _ _ (by omega) (fr_up hFN (by decide) _ _) (fun m hm => by simpa [vup] using hacN m hm) (fun j hj => by simpa [vup] using hopN j hj) (fun m hm => by simpa [vup] using hndN m hm) (fun j hj => by
                  show vup N.1 123 m _ 123 j = _
                  rw [vup_in]
                  by_cases e : j = m
                  · rw [if_pos e, e]
                  · rw [if_neg e]; exact hprN j (by omega))
              refine v_if_ge 181 dX4_lays_174 (by decide) (by omega) (fun h174 => ?_) (fun h174 => ?_)
              · skip
                refine v_iload dX4_lays_181 rfl ?_
                first | with_reducible exact jn183 _ (by unfold sPr; omega) | exact jn183 _ (by unfold sPr; omega)
              · skip
                refine v_iconst dX4_lays_177 ?_
                refine v_goto 183 dX4_lays_178 (by decide) ?_
                first | with_reducible exact jn183 _ (by unfold sPr; omega) | exact jn183 _ (by unfold sPr; omega)
        exact lp137 2 0 _ _ _ rfl hFK hacK (fun j hj => hopK j (by omega)) (fun m hm => by rw [hndK m hm]; congr 1; omega) (fun j hj => absurd hj (by omega))
      · skip
        exact absurd h24 (by omega)
    | succ dd ih =>
      intro s K c4 c5 hd hFK hacK hopK hndK
      have hLK := fr_lay hFK hLM
      have hvK : K.1 111 = v := (hFK.2 111 (by decide)).trans hv
      refine v_iload_n 3 dX4_lays_21 rfl rfl ?_
      refine v_bipush dX4_lays_22 (by decide) ?_
      refine v_icmp_ge 135 dX4_lays_24 (by decide) (by omega) (by decide) (fun h24 => ?_) (fun h24 => ?_)
      · skip
        exact absurd h24 (by omega)
      · skip
        have hs : s < 8 := by omega
        have hmn := sMan_lt hI hs
        refine v_aload_n 0 dX4_lays_27 rfl rfl ?_
        refine v_getR lk_X4_7 rfl (rfl : SH 110 = _) (mo_0 hLK) dX4_lays_28 ?_
        refine v_bipush dX4_lays_31 (by decide) ?_
        refine v_iconst dX4_lays_33 ?_
        refine v_iload_n 3 dX4_lays_34 rfl rfl ?_
        refine v_imul dX4_lays_35 ?_
        refine v_iadd dX4_lays_36 ?_
        refine o_iald (j := 24 + (5 * s)) (u := ((sMan v s : Nat) : Int)) (rfl : SH 111 = _) (by omega) (by omega) (by rw [hvK]; exact hmn.2) dX4_lays_37 ?_
        refine v_ist4 dX4_lays_38 rfl ?_
        refine v_aload_n 0 dX4_lays_40 rfl rfl ?_
        refine v_getR lk_X4_41 rfl (rfl : SH 110 = _) (mo_12 hLK) dX4_lays_41 ?_
        refine v_iload_n 3 dX4_lays_44 rfl rfl ?_
        refine v_iload_n 1 dX4_lays_45 rfl rfl ?_
        refine v_iload_n 3 dX4_lays_46 rfl rfl ?_
        refine v_ishr dX4_lays_47 ?_
        refine v_iconst dX4_lays_48 ?_
        refine v_iand dX4_lays_49 ?_
        refine o_eqI (nu_bitN (n := st) (by omega) (by omega)) ?_
        refine v_iconst dX4_lays_50 ?_
        have jn76 : ∀ z : Int, z = ((sOpn v st true s : Nat) : Int) → vO x Q G cX4_lays RX4 76 [some (aR (some 110)), some (aI (st : Int)), some (aI 1), some (aI (s : Int)), some (aI ((sMan v s : Nat) : Int)), c5, none, none] [aI z, aI (s : Int), aR (some 121)] K := by
          intro z hz
          subst hz
          refine o_iast (j := s) (by omega) (rfl : SH 121 = _) (by omega) (by omega) dX4_lays_76 ?_
          refine v_iconst dX4_lays_77 ?_
          refine v_ist5 dX4_lays_78 rfl ?_
          have lp80 : ∀ (dd k : Nat) (N : Mem), k + dd = 24 → fr [120, 121, 122, 123, 124, 125] M N → (∀ m, m < 2 → N.1 120 m = ((sAct v true m : Nat) : Int)) → (∀ j, j ≤ s → N.1 121 j = ((sOpn v st true j : Nat) : Int)) → (∀ m, m < 2 → N.1 122 m = sNs v st true m (24 * s + k)) → vO x Q G cX4_lays RX4 80 [some (aR (some 110)), some (aI (st : Int)), some (aI 1), some (aI (s : Int)), some (aI ((sMan v s : Nat) : Int)), some (aI (k : Int)), none, none] [] N := by
            intro dd
            induction dd with
            | zero =>
              intro k N hd2 hFN hacN hopN hndN
              have hLN := fr_lay hFN hLM
              have hvN : N.1 111 = v := (hFN.2 111 (by decide)).trans hv
              refine v_iload dX4_lays_80 rfl ?_
              refine v_bipush dX4_lays_82 (by decide) ?_
              refine v_icmp_ge 129 dX4_lays_84 (by decide) (by omega) (by decide) (fun h84 => ?_) (fun h84 => ?_)
              · skip
                refine v_iinc3 dX4_lays_129 rfl ?_
                refine v_goto 21 dX4_lays_132 (by decide) ?_
                exact ih (s + 1) N _ _ (by omega) hFN hacN (fun j hj => hopN j (by omega)) (fun m hm => by rw [hndN m hm]; congr 1; omega)
              · skip
                exact absurd h84 (by omega)
            | succ dd ih =>
              intro k N hd2 hFN hacN hopN hndN
              have hLN := fr_lay hFN hLM
              have hvN : N.1 111 = v := (hFN.2 111 (by decide)).trans hv
              refine v_iload dX4_lays_80 rfl ?_
              refine v_bipush dX4_lays_82 (by decide) ?_
              refine v_icmp_ge 129 dX4_lays_84 (by decide) (by omega) (by decide) (fun h84 => ?_) (fun h84 => ?_)
              · skip
                exact absurd h84 (by omega)
              · skip
                refine v_aload_n 0 dX4_lays_87 rfl rfl ?_
                refine v_getR lk_X4_44 rfl (rfl : SH 110 = _) (mo_13 hLN) dX4_lays_88 ?_
                refine v_iload dX4_lays_91 rfl ?_
                refine v_dup2 dX4_lays_93 rfl rfl ?_
                refine o_iald (j := sMan v s) (u := sNs v st true (sMan v s) (24 * s + k)) (rfl : SH 122 = _) (by omega) (by omega) (hndN _ hmn.1) dX4_lays_94 ?_
                refine v_aload_n 0 dX4_lays_95 rfl rfl ?_
                refine v_getR lk_X4_41 rfl (rfl : SH 110 = _) (mo_12 hLN) dX4_lays_96 ?_
                refine v_iload_n 3 dX4_lays_99 rfl rfl ?_
                refine o_iald (j := s) (u := ((sOpn v st true s : Nat) : Int)) (rfl : SH 121 = _) (by omega) (by omega) (hopN _ (Nat.le_refl _)) dX4_lays_100 ?_
                refine v_iload dX4_lays_101 rfl ?_
                refine v_ishr dX4_lays_103 ?_
                refine v_iconst dX4_lays_104 ?_
                refine v_iand dX4_lays_105 ?_
                have hol := sOpn_lt hI st true hs
                refine o_eqI (nu_bitN (n := sOpn v st true s) (by omega) (by omega)) ?_
                refine v_iconst dX4_lays_106 ?_
                have jn121 : ∀ z : Int, z = sNa v st true s k → vO x Q G cX4_lays RX4 121 [some (aR (some 110)), some (aI (st : Int)), some (aI 1), some (aI (s : Int)), some (aI ((sMan v s : Nat) : Int)), some (aI (k : Int)), none, none] [aI z, aI (sNs v st true (sMan v s) (24 * s + k)), aI ((sMan v s : Nat) : Int), aR (some 122)] N := by
                  intro z hz
                  subst hz
                  refine v_iadd dX4_lays_121 ?_
                  refine o_iast (j := sMan v s) (by omega) (rfl : SH 122 = _) (by omega) (by omega) dX4_lays_122 ?_
                  refine v_iinc5 dX4_lays_123 rfl ?_
                  refine v_goto 80 dX4_lays_126 (by decide) ?_
                  exact ih (k + 1) _ (by omega) (fr_up hFN (by decide) _ _) (fun m hm => by simpa [vup] using hacN m hm) (fun j hj => by simpa [vup] using hopN j hj) (nd_up (by omega) hndN)
                refine v_icmp_ne 120 dX4_lays_107 (by decide) (bP_R _) (by decide) (fun h107 => ?_) (fun h107 => ?_)
                · skip
                  refine v_iconst dX4_lays_120 ?_
                  first | with_reducible exact jn121 _ (na_1 (bP_1.mp h107)) | with_reducible exact jn121 _ (na_0 (mt bP_1.mpr h107))
                · skip
                  refine v_aload_n 0 dX4_lays_110 rfl rfl ?_
                  refine v_iload_n 3 dX4_lays_111 rfl rfl ?_
                  refine v_iload dX4_lays_112 rfl ?_
                  refine oVv2 4 (c_X4_need hLN hvN hI hs (by omega)) k0_X4_need ki_X4_need ml_X4_111 (rfl : SH 110 = _) (by decide) (vRo_of hxR (by decide) (by decide)) dX4_lays_114 (Nat.le_of_ble_eq_true rfl) ?_
                  refine v_goto 121 dX4_lays_117 (by decide) ?_
                  first | with_reducible exact jn121 _ (na_1 (bP_1.mp h107)) | with_reducible exact jn121 _ (na_0 (mt bP_1.mpr h107))
          exact lp80 24 0 _ rfl (fr_up hFK (by decide) _ _) (fun m hm => by simpa [vup] using hacK m hm) (fun j hj => by
              rw [show (vup K.1 121 s ((sOpn v st true s : Nat) : Int), K.2).1 = vup K.1 121 s ((sOpn v st true s : Nat) : Int) from rfl, vup_in]
              by_cases e : j = s
              · rw [if_pos e, e]
              · rw [if_neg e]; exact hopK j (by omega)) (fun m hm => by simpa [vup] using hndK m hm)
        refine v_icmp_ne 75 dX4_lays_51 (by decide) (bP_R _) (by decide) (fun h51 => ?_) (fun h51 => ?_)
        · skip
          refine v_iconst dX4_lays_75 ?_
          first | with_reducible exact jn76 _ (op_1 hI hs (bP_1.mp h51)) | with_reducible exact jn76 _ (op_0 (mt bP_1.mpr h51))
        · skip
          refine v_aload_n 0 dX4_lays_54 rfl rfl ?_
          refine v_getR lk_X4_38 rfl (rfl : SH 110 = _) (mo_11 hLK) dX4_lays_55 ?_
          refine v_iload dX4_lays_58 rfl ?_
          refine o_iald (j := sMan v s) (u := ((sAct v true (sMan v s) : Nat) : Int)) (rfl : SH 120 = _) (by omega) (by omega) (hacK _ (by omega)) dX4_lays_60 ?_
          refine v_aload_n 0 dX4_lays_61 rfl rfl ?_
          refine v_getR lk_X4_7 rfl (rfl : SH 110 = _) (mo_0 hLK) dX4_lays_62 ?_
          refine v_sipush dX4_lays_65 (by decide) ?_
          refine v_iload_n 3 dX4_lays_68 rfl rfl ?_
          refine v_iadd dX4_lays_69 ?_
          refine o_iald (j := 256 + s) (u := v (256 + s)) (rfl : SH 111 = _) (by omega) (by omega) (by rw [hvK]) dX4_lays_70 ?_
          refine v_ior dX4_lays_71 ?_
          refine v_goto 76 dX4_lays_72 (by decide) ?_
          first | with_reducible exact jn76 _ (op_1 hI hs (bP_1.mp h51)) | with_reducible exact jn76 _ (op_0 (mt bP_1.mpr h51))
  exact lp21 8 0 _ _ _ rfl (fr_up (fr_up hFN (by decide) _ _) (by decide) _ _) (fun m hm => by simpa [vup] using hac m hm) (fun j hj => absurd hj (by omega)) (fun m hm => by rcases (show m = 0 ∨ m = 1 by omega) with rfl | rfl <;> simp [vup, sNs])
set_option maxRecDepth 100000 in
set_option maxHeartbeats 400000 in
theorem c_X4_lays_f {l : Launch} {G : vGG} {M : Mem} {v : Sg} (hLM : LayM M.2) (hv : M.1 111 = v) (hI : sInv v) {st : Nat} (hst : st < 256) : Co l yX4_lays cX4_lays 8 none (rmo 1 23) G [aR (some 110), aI (st : Int), aI 0] M (fun r M' => r = none ∧ fr [120, 121, 122, 123, 124, 125] M M' ∧ SC v st false M') := by
  refine Co.ofV (plainFor_of_name (by decide)) rfl rfl ?_
  intro x hxl hxR hlk hrt Q hQ
  show vO x Q G cX4_lays RX4 0 [some (aR (some 110)), some (aI (st : Int)), some (aI 0), none, none, none, none, none] [] M
  refine v_aload_n 0 dX4_lays_0 rfl rfl ?_
  refine v_iload_n 2 dX4_lays_1 rfl rfl ?_
  refine oVp1 4 (c_X4_acts_f hLM hv hI) k0_X4_acts ki_X4_acts ml_X4_107 (rfl : SH 110 = _) (by decide) (vRo_of hxR (by decide) (by decide)) dX4_lays_2 (Nat.le_of_ble_eq_true rfl) (fun r N hN => ?_)
  obtain ⟨rfl, hF1, hac⟩ := hN
  have hFN : fr [120, 121, 122, 123, 124, 125] M N := fr_tr fr_rf hF1 (by decide)
  have hLN := fr_lay hFN hLM
  have hvN : N.1 111 = v := (hFN.2 111 (by decide)).trans hv
  show vO x Q G cX4_lays RX4 5 [some (aR (some 110)), some (aI (st : Int)), some (aI 0), none, none, none, none, none] [] N
  refine v_aload_n 0 dX4_lays_5 rfl rfl ?_
  refine v_getR lk_X4_44 rfl (rfl : SH 110 = _) (mo_13 hLN) dX4_lays_6 ?_
  refine v_iconst dX4_lays_9 ?_
  refine v_iconst dX4_lays_10 ?_
  refine o_iast (j := 0) (by omega) (rfl : SH 122 = _) (by omega) (by omega) dX4_lays_11 ?_
  refine v_aload_n 0 dX4_lays_12 rfl rfl ?_
  refine v_getR lk_X4_44 rfl (rfl : SH 110 = _) (mo_13 hLN) dX4_lays_13 ?_
  refine v_iconst dX4_lays_16 ?_
  refine v_iconst dX4_lays_17 ?_
  refine o_iast (j := 1) (by omega) (rfl : SH 122 = _) (by omega) (by omega) dX4_lays_18 ?_
  refine v_iconst dX4_lays_19 ?_
  refine v_ist3 dX4_lays_20 rfl ?_
  have lp21 : ∀ (dd s : Nat) (K : Mem) (c4 c5 : Option AV), s + dd = 8 → fr [120, 121, 122, 123, 124, 125] M K → (∀ m, m < 2 → K.1 120 m = ((sAct v false m : Nat) : Int)) → (∀ j, j < s → K.1 121 j = ((sOpn v st false j : Nat) : Int)) → (∀ m, m < 2 → K.1 122 m = sNs v st false m (24 * s)) → vO x Q G cX4_lays RX4 21 [some (aR (some 110)), some (aI (st : Int)), some (aI 0), some (aI (s : Int)), c4, c5, none, none] [] K := by
    intro dd
    induction dd with
    | zero =>
      intro s K c4 c5 hd hFK hacK hopK hndK
      have hLK := fr_lay hFK hLM
      have hvK : K.1 111 = v := (hFK.2 111 (by decide)).trans hv
      refine v_iload_n 3 dX4_lays_21 rfl rfl ?_
      refine v_bipush dX4_lays_22 (by decide) ?_
      refine v_icmp_ge 135 dX4_lays_24 (by decide) (by omega) (by decide) (fun h24 => ?_) (fun h24 => ?_)
      · skip
        refine v_iconst dX4_lays_135 ?_
        refine v_ist3 dX4_lays_136 rfl ?_
        have lp137 : ∀ (dd m : Nat) (N : Mem) (c4 c5 : Option AV), m + dd = 2 → fr [120, 121, 122, 123, 124, 125] M N → (∀ m, m < 2 → N.1 120 m = ((sAct v false m : Nat) : Int)) → (∀ j, j < 8 → N.1 121 j = ((sOpn v st false j : Nat) : Int)) → (∀ m, m < 2 → N.1 122 m = sNs v st false m 192) → (∀ j, j < m → N.1 123 j = sPr v st false j) → vO x Q G cX4_lays RX4 137 [some (aR (some 110)), some (aI (st : Int)), some (aI 0), some (aI (m : Int)), c4, c5, none, none] [] N := by
          intro dd
          induction dd with
          | zero =>
            intro m N c4 c5 hd hFN hacN hopN hndN hprN
            have hLN := fr_lay hFN hLM
            have hvN : N.1 111 = v := (hFN.2 111 (by decide)).trans hv
            refine v_iload_n 3 dX4_lays_137 rfl rfl ?_
            refine v_iconst dX4_lays_138 ?_
            refine v_icmp_ge 190 dX4_lays_139 (by decide) (by omega) (by decide) (fun h139 => ?_) (fun h139 => ?_)
            · skip
              refine v_aload_n 0 dX4_lays_190 rfl rfl ?_
              refine v_getR lk_X4_7 rfl (rfl : SH 110 = _) (mo_0 hLN) dX4_lays_191 ?_
              refine v_iconst dX4_lays_194 ?_
              refine o_iald (j := 0) (u := v (0)) (rfl : SH 111 = _) (by omega) (by omega) (by rw [hvN]) dX4_lays_195 ?_
              refine v_ist3 dX4_lays_196 rfl ?_
              refine v_iconst dX4_lays_197 ?_
              refine v_ist4 dX4_lays_198 rfl ?_
              have lp200 : ∀ (dd s : Nat) (K : Mem) (c5 c6 c7 : Option AV), s + dd = 8 → fr [120, 121, 122, 123, 124, 125] M K → SC4 v st false K → (∀ p, p < 24 * s → K.1 124 p = sAs v st false p) → (∀ p, p < 24 * s → K.1 125 p = sGt v st false p) → vO x Q G cX4_lays RX4 200 [some (aR (some 110)), some (aI (st : Int)), some (aI 0), some (aI (sLf v st false (24 * s))), some (aI (s : Int)), c5, c6, c7] [] K := by
                intro dd
                induction dd with
                | zero =>
                  intro s K c5 c6 c7 hd hFK h4K haK hgK
                  have hLK := fr_lay hFK hLM
                  have hvK : K.1 111 = v := (hFK.2 111 (by decide)).trans hv
                  refine v_iload dX4_lays_200 rfl ?_
                  refine v_bipush dX4_lays_202 (by decide) ?_
                  refine v_icmp_ge 333 dX4_lays_204 (by decide) (by omega) (by decide) (fun h204 => ?_) (fun h204 => ?_)
                  · skip
                    refine o_ret hQ hlk hrt dX4_lays_333 ?_
                    exact ⟨rfl, hFK, h4K, fun p hp => haK p (by omega), fun p hp => hgK p (by omega)⟩
                  · skip
                    exact absurd h204 (by omega)
                | succ dd ih =>
                  intro s K c5 c6 c7 hd hFK h4K haK hgK
                  have hLK := fr_lay hFK hLM
                  have hvK : K.1 111 = v := (hFK.2 111 (by decide)).trans hv
                  refine v_iload dX4_lays_200 rfl ?_
                  refine v_bipush dX4_lays_202 (by decide) ?_
                  refine v_icmp_ge 333 dX4_lays_204 (by decide) (by omega) (by decide) (fun h204 => ?_) (fun h204 => ?_)
                  · skip
                    exact absurd h204 (by omega)
                  · skip
                    have hs : s < 8 := by omega
                    have hmn := sMan_lt hI hs
                    refine v_iconst dX4_lays_207 ?_
                    refine v_ist5 dX4_lays_208 rfl ?_
                    have lp210 : ∀ (dd k : Nat) (N : Mem) (c6 c7 : Option AV), k + dd = 24 → fr [120, 121, 122, 123, 124, 125] M N → SC4 v st false N → (∀ p, p < 24 * s + k → N.1 124 p = sAs v st false p) → (∀ p, p < 24 * s + k → N.1 125 p = sGt v st false p) → vO x Q G cX4_lays RX4 210 [some (aR (some 110)), some (aI (st : Int)), some (aI 0), some (aI (sLf v st false (24 * s + k))), some (aI (s : Int)), some (aI (k : Int)), c6, c7] [] N := by
                      intro dd
                      induction dd with
                      | zero =>
                        intro k N c6 c7 hd2 hFN h4N haN hgN
                        have hLN := fr_lay hFN hLM
                        have hvN : N.1 111 = v := (hFN.2 111 (by decide)).trans hv
                        refine v_iload dX4_lays_210 rfl ?_
                        refine v_bipush dX4_lays_212 (by decide) ?_
                        refine v_icmp_ge 327 dX4_lays_214 (by decide) (by omega) (by decide) (fun h214 => ?_) (fun h214 => ?_)
                        · skip
                          refine v_iinc4 dX4_lays_327 rfl ?_
                          refine v_goto 200 dX4_lays_330 (by decide) ?_
                          rw [show 24 * s + k = 24 * (s + 1) by omega] at haN hgN ⊢
                          exact ih (s + 1) N _ _ _ (by omega) hFN h4N haN hgN
                        · skip
                          exact absurd h214 (by omega)
                      | succ dd ih =>
                        intro k N c6 c7 hd2 hFN h4N haN hgN
                        have hLN := fr_lay hFN hLM
                        have hvN : N.1 111 = v := (hFN.2 111 (by decide)).trans hv
                        refine v_iload dX4_lays_210 rfl ?_
                        refine v_bipush dX4_lays_212 (by decide) ?_
                        refine v_icmp_ge 327 dX4_lays_214 (by decide) (by omega) (by decide) (fun h214 => ?_) (fun h214 => ?_)
                        · skip
                          exact absurd h214 (by omega)
                        · skip
                          have hk : k < 24 := by omega
                          have hol := sOpn_lt hI st false hs
                          have hlf := sLf_b hI st false (24 * s + k) (by omega)
                          have hak := sAk_b hI st false hs hk
                          have hs1 := iv_set hI
                          have hb1 := iv_bel hI
                          refine v_aload_n 0 dX4_lays_217 rfl rfl ?_
                          refine v_getR lk_X4_41 rfl (rfl : SH 110 = _) (mo_12 hLN) dX4_lays_218 ?_
                          refine v_iload dX4_lays_221 rfl ?_
                          refine o_iald (j := s) (u := ((sOpn v st false (s) : Nat) : Int)) (rfl : SH 121 = _) (by omega) (by omega) (h4N.2.1 _ (by omega)) dX4_lays_223 ?_
                          refine v_iload dX4_lays_224 rfl ?_
                          refine v_ishr dX4_lays_226 ?_
                          refine v_iconst dX4_lays_227 ?_
                          refine v_iand dX4_lays_228 ?_
                          refine o_eqI (nu_bitN (n := sOpn v st false s) (by omega) (by omega)) ?_
                          refine v_iconst dX4_lays_229 ?_
                          have jn270 : ∀ z : Int, z = sAk v st false s k → vO x Q G cX4_lays RX4 270 [some (aR (some 110)), some (aI (st : Int)), some (aI 0), some (aI (sLf v st false (24 * s + k))), some (aI (s : Int)), some (aI (k : Int)), c6, c7] [aI z] N := by
                            intro z hz
                            subst hz
                            refine v_ist6 dX4_lays_270 rfl ?_
                            refine v_iload dX4_lays_272 rfl ?_
                            refine v_iload_n 3 dX4_lays_274 rfl rfl ?_
                            have jn284 : ∀ z : Int, z = min (sAk v st false s k) (sLf v st false (24 * s + k)) → vO x Q G cX4_lays RX4 284 [some (aR (some 110)), some (aI (st : Int)), some (aI 0), some (aI (sLf v st false (24 * s + k))), some (aI (s : Int)), some (aI (k : Int)), some (aI (sAk v st false s k)), c7] [aI z] N := by
                              intro z hz
                              subst hz
                              refine v_ist7 dX4_lays_284 rfl ?_
                              refine v_aload_n 0 dX4_lays_286 rfl rfl ?_
                              refine v_getR lk_X4_50 rfl (rfl : SH 110 = _) (mo_15 hLN) dX4_lays_287 ?_
                              refine v_bipush dX4_lays_290 (by decide) ?_
                              refine v_iload dX4_lays_292 rfl ?_
                              refine v_imul dX4_lays_294 ?_
                              refine v_iload dX4_lays_295 rfl ?_
                              refine v_iadd dX4_lays_297 ?_
                              refine v_iload dX4_lays_298 rfl ?_
                              refine o_iast (j := (24 * s) + k) (by omega) (rfl : SH 124 = _) (by omega) (by omega) dX4_lays_300 ?_
                              refine v_aload_n 0 dX4_lays_301 rfl rfl ?_
                              refine v_getR lk_X4_53 rfl (rfl : SH 110 = _) (mo_16 hLN) dX4_lays_302 ?_
                              refine v_bipush dX4_lays_305 (by decide) ?_
                              refine v_iload dX4_lays_307 rfl ?_
                              refine v_imul dX4_lays_309 ?_
                              refine v_iload dX4_lays_310 rfl ?_
                              refine v_iadd dX4_lays_312 ?_
                              refine v_iload dX4_lays_313 rfl ?_
                              refine o_iast (j := (24 * s) + k) (by omega) (rfl : SH 125 = _) (by omega) (by omega) dX4_lays_315 ?_
                              refine v_iload_n 3 dX4_lays_316 rfl rfl ?_
                              refine v_iload dX4_lays_317 rfl ?_
                              refine v_isub dX4_lays_319 ?_
                              refine v_ist3 dX4_lays_320 rfl ?_
                              refine v_iinc5 dX4_lays_321 rfl ?_
                              refine v_goto 210 dX4_lays_324 (by decide) ?_
                              rw [← sLf_step v st false s hk]
                              exact ih (k + 1) _ _ _ (by omega) (fr_up (fr_up hFN (by decide) _ _) (by decide) _ _) (h4N.keep (fr_up (fr_up fr_rf (by decide) _ _) (by decide) _ _)) (fun p hp => by simpa [vup] using as_up hk haN p hp) (fun p hp => by simpa [vup] using gt_up hk hgN p hp)
                            refine v_icmp_ge 283 dX4_lays_275 (by decide) (by omega) (by omega) (fun h275 => ?_) (fun h275 => ?_)
                            · skip
                              refine v_iload_n 3 dX4_lays_283 rfl rfl ?_
                              exact jn284 _ (by omega)
                            · skip
                              refine v_iload dX4_lays_278 rfl ?_
                              refine v_goto 284 dX4_lays_280 (by decide) ?_
                              exact jn284 _ (by omega)
                          refine v_icmp_ne 269 dX4_lays_230 (by decide) (bP_R _) (by decide) (fun h230 => ?_) (fun h230 => ?_)
                          · skip
                            refine v_iconst dX4_lays_269 ?_
                            first | with_reducible exact jn270 _ (ak_1 hI hs hk (bP_1.mp h230)) | with_reducible exact jn270 _ (ak_0 (mt bP_1.mpr h230))
                          · skip
                            refine v_aload_n 0 dX4_lays_233 rfl rfl ?_
                            refine v_iload dX4_lays_234 rfl ?_
                            refine v_iload dX4_lays_236 rfl ?_
                            refine oVv2 4 (c_X4_need hLN hvN hI hs hk) k0_X4_need ki_X4_need ml_X4_111 (rfl : SH 110 = _) (by decide) (vRo_of hxR (by decide) (by decide)) dX4_lays_238 (Nat.le_of_ble_eq_true rfl) ?_
                            refine v_aload_n 0 dX4_lays_241 rfl rfl ?_
                            refine v_getR lk_X4_47 rfl (rfl : SH 110 = _) (mo_14 hLN) dX4_lays_242 ?_
                            refine v_aload_n 0 dX4_lays_245 rfl rfl ?_
                            refine v_getR lk_X4_7 rfl (rfl : SH 110 = _) (mo_0 hLN) dX4_lays_246 ?_
                            refine v_bipush dX4_lays_249 (by decide) ?_
                            refine v_iconst dX4_lays_251 ?_
                            refine v_iload dX4_lays_252 rfl ?_
                            refine v_imul dX4_lays_254 ?_
                            refine v_iadd dX4_lays_255 ?_
                            refine o_iald (j := 24 + (5 * s)) (u := ((sMan v s : Nat) : Int)) (rfl : SH 111 = _) (by omega) (by omega) (by rw [hvN]; exact hmn.2) dX4_lays_256 ?_
                            refine o_iald (j := sMan v s) (u := sPr v st false (sMan v s)) (rfl : SH 123 = _) (by omega) (by omega) (h4N.2.2.2 _ hmn.1) dX4_lays_257 ?_
                            refine v_imul dX4_lays_258 ?_
                            refine v_aload_n 0 dX4_lays_259 rfl rfl ?_
                            refine v_getR lk_X4_7 rfl (rfl : SH 110 = _) (mo_0 hLN) dX4_lays_260 ?_
                            refine v_iconst dX4_lays_263 ?_
                            refine o_iald (j := 1) (u := v (1)) (rfl : SH 111 = _) (by omega) (by omega) (by rw [hvN]) dX4_lays_264 ?_
                            refine v_idiv dX4_lays_265 (ak_R hI hs hk) (by omega) (by omega) ?_
                            refine v_goto 270 dX4_lays_266 (by decide) ?_
                            first | with_reducible exact jn270 _ (ak_1 hI hs hk (bP_1.mp h230)) | with_reducible exact jn270 _ (ak_0 (mt bP_1.mpr h230))
                    exact lp210 24 0 _ _ _ rfl hFK h4K haK hgK
              exact lp200 8 0 _ _ _ _ rfl hFN ⟨hacN, hopN, hndN, fun j hj => hprN j (by omega)⟩ (fun p hp => absurd hp (by omega)) (fun p hp => absurd hp (by omega))
            · skip
              exact absurd h139 (by omega)
          | succ dd ih =>
            intro m N c4 c5 hd hFN hacN hopN hndN hprN
            have hLN := fr_lay hFN hLM
            have hvN : N.1 111 = v := (hFN.2 111 (by decide)).trans hv
            refine v_iload_n 3 dX4_lays_137 rfl rfl ?_
            refine v_iconst dX4_lays_138 ?_
            refine v_icmp_ge 190 dX4_lays_139 (by decide) (by omega) (by decide) (fun h139 => ?_) (fun h139 => ?_)
            · skip
              exact absurd h139 (by omega)
            · skip
              have hm2 : m < 2 := by omega
              have hnl := nl_b hI (st := st) (pr := false) hm2
              have hr1 := sRes_b hI
              have hs1 := iv_set hI
              refine v_aload_n 0 dX4_lays_142 rfl rfl ?_
              refine oVv0 4 (c_X4_reservoir hLN hvN hI) k0_X4_reservoir ki_X4_reservoir ml_X4_114 (rfl : SH 110 = _) (by decide) (vRo_of hxR (by decide) (by decide)) dX4_lays_143 (Nat.le_of_ble_eq_true rfl) ?_
              refine v_aload_n 0 dX4_lays_146 rfl rfl ?_
              refine v_getR lk_X4_44 rfl (rfl : SH 110 = _) (mo_13 hLN) dX4_lays_147 ?_
              refine v_iload_n 3 dX4_lays_150 rfl rfl ?_
              refine o_iald (j := m) (u := sNs v st false m 192) (rfl : SH 122 = _) (by omega) (by omega) (hndN _ hm2) dX4_lays_151 ?_
              refine v_aload_n 0 dX4_lays_152 rfl rfl ?_
              refine v_getR lk_X4_7 rfl (rfl : SH 110 = _) (mo_0 hLN) dX4_lays_153 ?_
              refine v_iconst dX4_lays_156 ?_
              refine v_iload_n 3 dX4_lays_157 rfl rfl ?_
              refine v_iadd dX4_lays_158 ?_
              refine o_iald (j := 2 + m) (u := v (2 + m)) (rfl : SH 111 = _) (by omega) (by omega) (by rw [hvN]) dX4_lays_159 ?_
              refine v_imul dX4_lays_160 ?_
              refine v_bipush dX4_lays_161 (by decide) ?_
              refine v_idiv dX4_lays_163 (by omega) (by decide) (by omega) ?_
              refine o_eqI (nu_tdiv hnl.1) ?_
              refine v_isub dX4_lays_164 ?_
              refine v_ist4 dX4_lays_165 rfl ?_
              refine v_aload_n 0 dX4_lays_167 rfl rfl ?_
              refine v_getR lk_X4_47 rfl (rfl : SH 110 = _) (mo_14 hLN) dX4_lays_168 ?_
              refine v_iload_n 3 dX4_lays_171 rfl rfl ?_
              refine v_iload dX4_lays_172 rfl ?_
              have jn183 : ∀ z : Int, z = sPr v st false m → vO x Q G cX4_lays RX4 183 [some (aR (some 110)), some (aI (st : Int)), some (aI 0), some (aI (m : Int)), some (aI (sRes v - sNs v st false m 192 * v (2 + m) / 100)), c5, none, none] [aI z, aI (m : Int), aR (some 123)] N := by
                intro z hz
                subst hz
                refine o_iast (j := m) (by omega) (rfl : SH 123 = _) (by omega) (by omega) dX4_lays_183 ?_
                refine v_iinc3 dX4_lays_184 rfl ?_
                refine v_goto 137 dX4_lays_187 (by decide) ?_
                exact ih (m + 1) _ _ _ (by omega) (fr_up hFN (by decide) _ _) (fun m hm => by simpa [vup] using hacN m hm) (fun j hj => by simpa [vup] using hopN j hj) (fun m hm => by simpa [vup] using hndN m hm) (fun j hj => by
                  show vup N.1 123 m _ 123 j = _
                  rw [vup_in]
                  by_cases e : j = m
                  · rw [if_pos e, e]
                  · rw [if_neg e]; exact hprN j (by omega))
              refine v_if_ge 181 dX4_lays_174 (by decide) (by omega) (fun h174 => ?_) (fun h174 => ?_)
              · skip
                refine v_iload dX4_lays_181 rfl ?_
                first | with_reducible exact jn183 _ (by unfold sPr; omega) | exact jn183 _ (by unfold sPr; omega)
              · skip
                refine v_iconst dX4_lays_177 ?_
                refine v_goto 183 dX4_lays_178 (by decide) ?_
                first | with_reducible exact jn183 _ (by unfold sPr; omega) | exact jn183 _ (by unfold sPr; omega)
        exact lp137 2 0 _ _ _ rfl hFK hacK (fun j hj => hopK j (by omega)) (fun m hm => by rw [hndK m hm]; congr 1; omega) (fun j hj => absurd hj (by omega))
      · skip
        exact absurd h24 (by omega)
    | succ dd ih =>
      intro s K c4 c5 hd hFK hacK hopK hndK
      have hLK := fr_lay hFK hLM
      have hvK : K.1 111 = v := (hFK.2 111 (by decide)).trans hv
      refine v_iload_n 3 dX4_lays_21 rfl rfl ?_
      refine v_bipush dX4_lays_22 (by decide) ?_
      refine v_icmp_ge 135 dX4_lays_24 (by decide) (by omega) (by decide) (fun h24 => ?_) (fun h24 => ?_)
      · skip
        exact absurd h24 (by omega)
      · skip
        have hs : s < 8 := by omega
        have hmn := sMan_lt hI hs
        refine v_aload_n 0 dX4_lays_27 rfl rfl ?_
        refine v_getR lk_X4_7 rfl (rfl : SH 110 = _) (mo_0 hLK) dX4_lays_28 ?_
        refine v_bipush dX4_lays_31 (by decide) ?_
        refine v_iconst dX4_lays_33 ?_
        refine v_iload_n 3 dX4_lays_34 rfl rfl ?_
        refine v_imul dX4_lays_35 ?_
        refine v_iadd dX4_lays_36 ?_
        refine o_iald (j := 24 + (5 * s)) (u := ((sMan v s : Nat) : Int)) (rfl : SH 111 = _) (by omega) (by omega) (by rw [hvK]; exact hmn.2) dX4_lays_37 ?_
        refine v_ist4 dX4_lays_38 rfl ?_
        refine v_aload_n 0 dX4_lays_40 rfl rfl ?_
        refine v_getR lk_X4_41 rfl (rfl : SH 110 = _) (mo_12 hLK) dX4_lays_41 ?_
        refine v_iload_n 3 dX4_lays_44 rfl rfl ?_
        refine v_iload_n 1 dX4_lays_45 rfl rfl ?_
        refine v_iload_n 3 dX4_lays_46 rfl rfl ?_
        refine v_ishr dX4_lays_47 ?_
        refine v_iconst dX4_lays_48 ?_
        refine v_iand dX4_lays_49 ?_
        refine o_eqI (nu_bitN (n := st) (by omega) (by omega)) ?_
        refine v_iconst dX4_lays_50 ?_
        have jn76 : ∀ z : Int, z = ((sOpn v st false s : Nat) : Int) → vO x Q G cX4_lays RX4 76 [some (aR (some 110)), some (aI (st : Int)), some (aI 0), some (aI (s : Int)), some (aI ((sMan v s : Nat) : Int)), c5, none, none] [aI z, aI (s : Int), aR (some 121)] K := by
          intro z hz
          subst hz
          refine o_iast (j := s) (by omega) (rfl : SH 121 = _) (by omega) (by omega) dX4_lays_76 ?_
          refine v_iconst dX4_lays_77 ?_
          refine v_ist5 dX4_lays_78 rfl ?_
          have lp80 : ∀ (dd k : Nat) (N : Mem), k + dd = 24 → fr [120, 121, 122, 123, 124, 125] M N → (∀ m, m < 2 → N.1 120 m = ((sAct v false m : Nat) : Int)) → (∀ j, j ≤ s → N.1 121 j = ((sOpn v st false j : Nat) : Int)) → (∀ m, m < 2 → N.1 122 m = sNs v st false m (24 * s + k)) → vO x Q G cX4_lays RX4 80 [some (aR (some 110)), some (aI (st : Int)), some (aI 0), some (aI (s : Int)), some (aI ((sMan v s : Nat) : Int)), some (aI (k : Int)), none, none] [] N := by
            intro dd
            induction dd with
            | zero =>
              intro k N hd2 hFN hacN hopN hndN
              have hLN := fr_lay hFN hLM
              have hvN : N.1 111 = v := (hFN.2 111 (by decide)).trans hv
              refine v_iload dX4_lays_80 rfl ?_
              refine v_bipush dX4_lays_82 (by decide) ?_
              refine v_icmp_ge 129 dX4_lays_84 (by decide) (by omega) (by decide) (fun h84 => ?_) (fun h84 => ?_)
              · skip
                refine v_iinc3 dX4_lays_129 rfl ?_
                refine v_goto 21 dX4_lays_132 (by decide) ?_
                exact ih (s + 1) N _ _ (by omega) hFN hacN (fun j hj => hopN j (by omega)) (fun m hm => by rw [hndN m hm]; congr 1; omega)
              · skip
                exact absurd h84 (by omega)
            | succ dd ih =>
              intro k N hd2 hFN hacN hopN hndN
              have hLN := fr_lay hFN hLM
              have hvN : N.1 111 = v := (hFN.2 111 (by decide)).trans hv
              refine v_iload dX4_lays_80 rfl ?_
              refine v_bipush dX4_lays_82 (by decide) ?_
              refine v_icmp_ge 129 dX4_lays_84 (by decide) (by omega) (by decide) (fun h84 => ?_) (fun h84 => ?_)
              · skip
                exact absurd h84 (by omega)
              · skip
                refine v_aload_n 0 dX4_lays_87 rfl rfl ?_
                refine v_getR lk_X4_44 rfl (rfl : SH 110 = _) (mo_13 hLN) dX4_lays_88 ?_
                refine v_iload dX4_lays_91 rfl ?_
                refine v_dup2 dX4_lays_93 rfl rfl ?_
                refine o_iald (j := sMan v s) (u := sNs v st false (sMan v s) (24 * s + k)) (rfl : SH 122 = _) (by omega) (by omega) (hndN _ hmn.1) dX4_lays_94 ?_
                refine v_aload_n 0 dX4_lays_95 rfl rfl ?_
                refine v_getR lk_X4_41 rfl (rfl : SH 110 = _) (mo_12 hLN) dX4_lays_96 ?_
                refine v_iload_n 3 dX4_lays_99 rfl rfl ?_
                refine o_iald (j := s) (u := ((sOpn v st false s : Nat) : Int)) (rfl : SH 121 = _) (by omega) (by omega) (hopN _ (Nat.le_refl _)) dX4_lays_100 ?_
                refine v_iload dX4_lays_101 rfl ?_
                refine v_ishr dX4_lays_103 ?_
                refine v_iconst dX4_lays_104 ?_
                refine v_iand dX4_lays_105 ?_
                have hol := sOpn_lt hI st false hs
                refine o_eqI (nu_bitN (n := sOpn v st false s) (by omega) (by omega)) ?_
                refine v_iconst dX4_lays_106 ?_
                have jn121 : ∀ z : Int, z = sNa v st false s k → vO x Q G cX4_lays RX4 121 [some (aR (some 110)), some (aI (st : Int)), some (aI 0), some (aI (s : Int)), some (aI ((sMan v s : Nat) : Int)), some (aI (k : Int)), none, none] [aI z, aI (sNs v st false (sMan v s) (24 * s + k)), aI ((sMan v s : Nat) : Int), aR (some 122)] N := by
                  intro z hz
                  subst hz
                  refine v_iadd dX4_lays_121 ?_
                  refine o_iast (j := sMan v s) (by omega) (rfl : SH 122 = _) (by omega) (by omega) dX4_lays_122 ?_
                  refine v_iinc5 dX4_lays_123 rfl ?_
                  refine v_goto 80 dX4_lays_126 (by decide) ?_
                  exact ih (k + 1) _ (by omega) (fr_up hFN (by decide) _ _) (fun m hm => by simpa [vup] using hacN m hm) (fun j hj => by simpa [vup] using hopN j hj) (nd_up (by omega) hndN)
                refine v_icmp_ne 120 dX4_lays_107 (by decide) (bP_R _) (by decide) (fun h107 => ?_) (fun h107 => ?_)
                · skip
                  refine v_iconst dX4_lays_120 ?_
                  first | with_reducible exact jn121 _ (na_1 (bP_1.mp h107)) | with_reducible exact jn121 _ (na_0 (mt bP_1.mpr h107))
                · skip
                  refine v_aload_n 0 dX4_lays_110 rfl rfl ?_
                  refine v_iload_n 3 dX4_lays_111 rfl rfl ?_
                  refine v_iload dX4_lays_112 rfl ?_
                  refine oVv2 4 (c_X4_need hLN hvN hI hs (by omega)) k0_X4_need ki_X4_need ml_X4_111 (rfl : SH 110 = _) (by decide) (vRo_of hxR (by decide) (by decide)) dX4_lays_114 (Nat.le_of_ble_eq_true rfl) ?_
                  refine v_goto 121 dX4_lays_117 (by decide) ?_
                  first | with_reducible exact jn121 _ (na_1 (bP_1.mp h107)) | with_reducible exact jn121 _ (na_0 (mt bP_1.mpr h107))
          exact lp80 24 0 _ rfl (fr_up hFK (by decide) _ _) (fun m hm => by simpa [vup] using hacK m hm) (fun j hj => by
              rw [show (vup K.1 121 s ((sOpn v st false s : Nat) : Int), K.2).1 = vup K.1 121 s ((sOpn v st false s : Nat) : Int) from rfl, vup_in]
              by_cases e : j = s
              · rw [if_pos e, e]
              · rw [if_neg e]; exact hopK j (by omega)) (fun m hm => by simpa [vup] using hndK m hm)
        refine v_icmp_ne 75 dX4_lays_51 (by decide) (bP_R _) (by decide) (fun h51 => ?_) (fun h51 => ?_)
        · skip
          refine v_iconst dX4_lays_75 ?_
          first | with_reducible exact jn76 _ (op_1 hI hs (bP_1.mp h51)) | with_reducible exact jn76 _ (op_0 (mt bP_1.mpr h51))
        · skip
          refine v_aload_n 0 dX4_lays_54 rfl rfl ?_
          refine v_getR lk_X4_38 rfl (rfl : SH 110 = _) (mo_11 hLK) dX4_lays_55 ?_
          refine v_iload dX4_lays_58 rfl ?_
          refine o_iald (j := sMan v s) (u := ((sAct v false (sMan v s) : Nat) : Int)) (rfl : SH 120 = _) (by omega) (by omega) (hacK _ (by omega)) dX4_lays_60 ?_
          refine v_aload_n 0 dX4_lays_61 rfl rfl ?_
          refine v_getR lk_X4_7 rfl (rfl : SH 110 = _) (mo_0 hLK) dX4_lays_62 ?_
          refine v_sipush dX4_lays_65 (by decide) ?_
          refine v_iload_n 3 dX4_lays_68 rfl rfl ?_
          refine v_iadd dX4_lays_69 ?_
          refine o_iald (j := 256 + s) (u := v (256 + s)) (rfl : SH 111 = _) (by omega) (by omega) (by rw [hvK]) dX4_lays_70 ?_
          refine v_ior dX4_lays_71 ?_
          refine v_goto 76 dX4_lays_72 (by decide) ?_
          first | with_reducible exact jn76 _ (op_1 hI hs (bP_1.mp h51)) | with_reducible exact jn76 _ (op_0 (mt bP_1.mpr h51))
  exact lp21 8 0 _ _ _ rfl (fr_up (fr_up hFN (by decide) _ _) (by decide) _ _) (fun m hm => by simpa [vup] using hac m hm) (fun j hj => absurd hj (by omega)) (fun m hm => by rcases (show m = 0 ∨ m = 1 by omega) with rfl | rfl <;> simp [vup, sNs])
