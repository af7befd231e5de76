/-! ===== the class: ticks ===== -/
theorem sm_e {v u : Sg} (e : sSame v u) {i : Nat} (h : (1 ≤ i ∧ i ≤ 12) ∨ (24 ≤ i ∧ i < 64 ∧ (i - 24) % 5 ≠ 4) ∨ 64 ≤ i) : u i = v i := e i h
theorem sm_man {v u : Sg} (e : sSame v u) {s : Nat} (hs : s < 8) : sMan u s = sMan v s := by rw [sMan, sMan, sm_e e (by omega)]
theorem sm_need {v u : Sg} (e : sSame v u) {s k : Nat} (hs : s < 8) : sNeed u s k = sNeed v s k := by rw [sNeed, sNeed, sm_e e (by omega)]
theorem sm_drw {v u : Sg} (e : sSame v u) : sDrw u = sDrw v := sDrw_congr (fun s hs => sm_e e (by omega))
theorem sm_act {v u : Sg} (e : sSame v u) (pr : Bool) (m : Nat) : sAct u pr m = sAct v pr m := by
  unfold sAct sAct1 sAct0 sFst sSnd
  rw [sm_e e (i := 10) (by omega), sm_e e (i := 11) (by omega), sm_e e (i := 12) (by omega)]
theorem sm_opn {v u : Sg} (e : sSame v u) (st : Nat) (pr : Bool) {s : Nat} (hs : s < 8) : sOpn u st pr s = sOpn v st pr s := by
  rw [sOpn, sOpn, sm_man e hs, sm_act e, sm_e e (i := 256 + s) (by omega)]
theorem sm_ns {v u : Sg} (e : sSame v u) (st : Nat) (pr : Bool) (m : Nat) : ∀ p, p ≤ 192 → sNs u st pr m p = sNs v st pr m p
  | 0, _ => rfl
  | p + 1, hp => by
    rw [sNs, sNs, sm_ns e st pr m p (by omega), sm_man e (show p / 24 < 8 by omega), sNa, sNa, sm_opn e st pr (show p / 24 < 8 by omega), sm_need e (show p / 24 < 8 by omega)]
theorem sm_pr {v u : Sg} (e : sSame v u) (hr : sRes u = sRes v) (st : Nat) (pr : Bool) {m : Nat} (hm : m < 2) : sPr u st pr m = sPr v st pr m := by
  rw [sPr, sPr, hr, sm_ns e st pr m 192 (Nat.le_refl _), sm_e e (i := 2 + m) (by omega)]
theorem sm_as {v u : Sg} (hI : sInv v) (e : sSame v u) (hr : sRes u = sRes v) (st : Nat) (pr : Bool) {p : Nat} (hp : p < 192) : sAs u st pr p = sAs v st pr p := by
  have hm := (sMan_lt hI (show p / 24 < 8 by omega)).1
  rw [sAs, sAs, sAk, sAk, sm_opn e st pr (show p / 24 < 8 by omega), sm_need e (show p / 24 < 8 by omega), sm_man e (show p / 24 < 8 by omega), sm_pr e hr st pr hm, sm_e e (i := 1) (by omega)]
theorem sm_sq {v u : Sg} (hI : sInv v) (e : sSame v u) (hr : sRes u = sRes v) (st : Nat) (pr : Bool) {s : Nat} (hs : s < 8) : ∀ k, k ≤ 24 → sSq u st pr s k = sSq v st pr s k
  | 0, _ => rfl
  | k + 1, hk => by rw [sSq, sSq, sm_sq hI e hr st pr hs k (by omega), sm_as hI e hr st pr (show 24 * s + k < 192 by omega)]
theorem WO.same {w : Nat} {v u : Sg} {st : Nat} {pr : Bool} {f : Nat → Nat → Int} (h : WO w v st pr f) (e : sSame v u) : WO w u st pr f :=
  ⟨fun s hs => by rw [sm_opn e st pr hs]; exact h.1 s hs, fun m hm => by rw [sm_ns e st pr m 192 (Nat.le_refl _)]; exact h.2 m hm⟩
def pKn (v : Sg) (kn : Int) (f : Nat → Nat → Int) : Prop := kn = -1000005 ∨ ∃ u, sSame v u ∧ sInv u ∧ kn = sRes u ∧ ∀ s, s < 8 → f (33 + 1 + 3) s = sSq u (sDrw u) true s 24
theorem pKn.use {v u2 : Sg} {kn : Int} {f : Nat → Nat → Int} (h : pKn v kn f) (hs : sSame v u2) (hI : sInv u2) (hk : sRes u2 = kn) : ∀ s, s < 8 → f (33 + 1 + 3) s = sSq u2 (sDrw u2) true s 24 := by
  have hb := sRes_b hI
  rcases h with h | ⟨u, h1, h2, h3, h4⟩
  · omega
  · intro s hs8
    have e : sSame u u2 := fun i hi => (hs i hi).trans (h1 i hi).symm
    rw [h4 s hs8, sm_drw e, sm_sq h2 e (by omega) (sDrw u) true hs8 24 (Nat.le_refl _)]
theorem xs_time {b : Nat} {v : Sg} {f g : Nat → Nat → Int} {z : Int} (h : XS b v f) (h1 : ∀ i, i ≠ b → g i = f i) (h2 : ∀ j, g b j = if j = 13 then z else f b j) : XS b (sup v 13 z) g := by
  have e : ∀ i, i ≠ 13 → sup v 13 z i = v i := fun i hi => sup_ne _ _ hi
  have d : ∀ j, j ≠ 13 → g b j = f b j := fun j hj => by rw [h2 j, if_neg hj]
  refine h.low (fun i hi => e i (by omega)) (fun i p q => h1 i (by omega)) (fun k hk => d k (by omega)) (fun m hm => ?_) ⟨?_, ?_, ?_, ?_, ?_, ?_, ?_, fun q => ?_⟩
  · rw [h1 _ (by omega), e _ (by omega)]; exact xs_sb h hm
  · rw [d 12 (by decide), e 0 (by decide)]; exact xs_vol h
  · rw [h2 13, if_pos rfl, sup_eq]
  · rw [d 14 (by decide), e 14 (by decide)]; exact xs_mad h
  · rw [d 15 (by decide), e 16 (by decide)]; exact xs_spi h
  · rw [d 16 (by decide), e 17 (by decide)]; exact xs_lf h
  · rw [d 17 (by decide), e 20 (by decide)]; exact xs_sl h
  · rw [d 19 (by decide), e 22 (by decide)]; exact xs_st h
  · rw [e 22 (by decide)] at q
    rw [d 18 (by decide), e 23 (by decide), e 21 (by decide)]; exact xs_sp h q
theorem sLw_R {v : Sg} (h : sInv v) (n : Nat) : R32 (sLw v n) := by
  cases n with
  | zero => rw [sLw]; decide
  | succ n => have := sLw_b h (n + 1) (by omega); omega
set_option maxRecDepth 100000 in
set_option maxHeartbeats 1000000 in
theorem c_X3_letPass {l : Launch} {G : vGG} {M : Mem} {v : Sg} {b : Nat} (hb : stB b) (hLX : LayX M.2) (hX : XS b v M.1) (hI : sInv v) {n : Nat} (hn : n ≤ 1000) : Co l yX3_letPass cX3_letPass 7 (some .int) (rmo 4 90) G [aR (some 0), aR (some b), aI (n : Int)] M (fun r M' => r = some (aI (sLw v n)) ∧ fz b (b + 10) 33 40 M M' ∧ XS b (sTks v n) M'.1) := by
  refine Co.ofV (plainFor_of_name (by decide)) rfl rfl ?_
  intro x hxl hxR hlk hrt Q hQ
  have hbl := stB_lt hb
  have hbw := bw_d hb wiB_33
  show vO x Q G cX3_letPass RX3 0 [some (aR (some 0)), some (aR (some b)), some (aI (n : Int)), none, none, none, none] [] M
  refine v_aload_n 0 dX3_letPass_0 rfl rfl ?_
  refine v_getR lk_X3_44 rfl (rfl : SH 0 = _) (ow_7 hLX) dX3_letPass_1 ?_
  refine v_aload_n 1 dX3_letPass_4 rfl rfl ?_
  refine v_aload_n 1 dX3_letPass_5 rfl rfl ?_
  refine o_getI (u := ((sDrw v : Nat) : Int)) lk_X3_80 rfl (st_o hb) (xs_drw hX) dX3_letPass_6 ?_
  refine v_iconst dX3_letPass_9 ?_
  refine oVm3 2 (c_X2_openPipes (pr := true) hb hLX hX hI wiB_33 (sDrw_lt hI)) k0_X2_openPipes ki_X2_openPipes ml_X3_300 (wi_o wiB_33) (by decide) (vRo_of hxR (by decide) (by decide)) dX3_letPass_10 (Nat.le_of_ble_eq_true rfl) (fun N hN => ?_)
  obtain ⟨hF0, hO⟩ := hN
  have hF : fz b (b + 10) 33 40 M N := ⟨hF0.1, fun i h1 h2 => hF0.2 i (by omega) (by omega)⟩
  have hL0 := fz_layX hF hLX
  refine v_ldc (-1000005) kc_X3_148 (by decide) dX3_letPass_13 ?_
  refine v_ist3 dX3_letPass_15 rfl ?_
  refine v_ldc (1000000) kc_X3_246 (by decide) dX3_letPass_16 ?_
  refine v_ist4 dX3_letPass_18 rfl ?_
  refine v_iconst dX3_letPass_20 ?_
  refine v_ist5 dX3_letPass_21 rfl ?_
  have lp23 : ∀ (dd i : Nat) (K : Mem) (kn : Int) (c6 : Option AV), i + dd = n → fz b (b + 10) 33 40 M K → XS b (sTks v i) K.1 → WO 33 v (sDrw v) true K.1 → pKn v kn K.1 → R32 kn → vO x Q G cX3_letPass RX3 23 [some (aR (some 0)), some (aR (some b)), some (aI (n : Int)), some (aI kn), some (aI (sLw v i)), some (aI (i : Int)), c6] [] K := by
    intro dd
    induction dd with
    | zero =>
      intro i K kn c6 hd hF hXK hO hkn hkR
      obtain rfl : i = n := by omega
      have hLK := fz_layX hF hLX
      have hIi := sTks_inv hI i
      refine v_iload dX3_letPass_23 rfl ?_
      refine v_iload_n 2 dX3_letPass_25 rfl rfl ?_
      refine v_icmp_ge 99 dX3_letPass_26 (by decide) (by omega) (by omega) (fun h26 => ?_) (fun h26 => ?_)
      · skip
        refine v_iload dX3_letPass_99 rfl ?_
        refine o_iret hQ hlk hrt dX3_letPass_101 ?_
        exact ⟨rfl, hF, hXK⟩
      · skip
        exact absurd h26 (by omega)
    | succ dd ih =>
      intro i K kn c6 hd hF hXK hO hkn hkR
      have hLK := fz_layX hF hLX
      have hIi := sTks_inv hI i
      refine v_iload dX3_letPass_23 rfl ?_
      refine v_iload_n 2 dX3_letPass_25 rfl rfl ?_
      refine v_icmp_ge 99 dX3_letPass_26 (by decide) (by omega) (by omega) (fun h26 => ?_) (fun h26 => ?_)
      · skip
        exact absurd h26 (by omega)
      · skip
        refine v_aload_n 1 dX3_letPass_29 rfl rfl ?_
        refine oVm0 0 (c_X0_pump hb hLK hXK hIi) k0_X0_pump ki_X0_pump ml_X3_303 (st_o hb) (by decide) (vRo_of hxR (by decide) (by decide)) dX3_letPass_30 (Nat.le_of_ble_eq_true rfl) (fun N hN => ?_)
        obtain ⟨hF1, hX1⟩ := hN
        have hF2 : fz b (b + 10) 33 40 M N := fz_tr hF hF1 (fun i h1 h2 => by omega)
        have hLN := fz_layX hF2 hLX
        have hI2 := sPmp_inv hIi
        have hS2 : sSame v (sPmp (sTks v i)) := (sTks_same hI i).tr (sPmp_same hIi)
        have hO2 : WO 33 v (sDrw v) true N.1 := ⟨fun s hs => by rw [hF1.2 _ (by omega) (by omega)]; exact hO.1 s hs, fun m hm => by rw [hF1.2 _ (by omega) (by omega)]; exact hO.2 m hm⟩
        have hkn2 : pKn v kn N.1 := by
          rcases hkn with q | ⟨u, a1, a2, a3, a4⟩
          · exact .inl q
          · exact .inr ⟨u, a1, a2, a3, fun s hs => by rw [hF1.2 _ (by omega) (by omega)]; exact a4 s hs⟩
        have hrb := sRes_b hI2
        have hse := iv_set hI2
        refine v_aload_n 1 dX3_letPass_33 rfl rfl ?_
        refine oVv0 0 (c_X0_reservoirPressure hb hLN hX1 hI2) k0_X0_reservoirPressure ki_X0_reservoirPressure ml_X3_178 (st_o hb) (by decide) (vRo_of hxR (by decide) (by decide)) dX3_letPass_34 (Nat.le_of_ble_eq_true rfl) ?_
        refine v_ist6 dX3_letPass_37 rfl ?_
        refine v_iload dX3_letPass_39 rfl ?_
        refine v_iload_n 3 dX3_letPass_41 rfl rfl ?_
        have jn64 : ∀ (K : Mem), fz b (b + 10) 33 40 M K → XS b (sPmp (sTks v i)) K.1 → WO 33 v (sDrw v) true K.1 → (∀ s, s < 8 → K.1 (33 + 1 + 3) s = sSq (sPmp (sTks v i)) (sDrw (sPmp (sTks v i))) true s 24) → vO x Q G cX3_letPass RX3 64 [some (aR (some 0)), some (aR (some b)), some (aI (n : Int)), some (aI (sRes (sPmp (sTks v i)))), some (aI (sLw v i)), some (aI (i : Int)), some (aI (sRes (sPmp (sTks v i))))] [] K := by
          intro K hF3 hX3 hO3 hA3
          have hLK3 := fz_layX hF3 hLX
          refine v_aload_n 0 dX3_letPass_64 rfl rfl ?_
          refine v_getR lk_X3_44 rfl (rfl : SH 0 = _) (ow_7 hLK3) dX3_letPass_65 ?_
          refine v_aload_n 1 dX3_letPass_68 rfl rfl ?_
          refine oVm1 2 (c_X2_feedPipes hb hLK3 hX3 hI2 wiB_33 hA3) k0_X2_feedPipes ki_X2_feedPipes ml_X3_313 (wi_o wiB_33) (by decide) (vRo_of hxR (by decide) (by decide)) dX3_letPass_69 (Nat.le_of_ble_eq_true rfl) (fun N hN => ?_)
          obtain ⟨hF5, hX5⟩ := hN
          have hF : fz b (b + 10) 33 40 M N := fz_tr hF3 hF5 (fun i h1 h2 => by omega)
          have hLN5 := fz_layX hF hLX
          have hO5 : WO 33 v (sDrw v) true N.1 := ⟨fun s hs => by rw [hF5.2 _ (by omega) (by omega)]; exact hO3.1 s hs, fun m hm => by rw [hF5.2 _ (by omega) (by omega)]; exact hO3.2 m hm⟩
          have hkn5 : pKn v (sRes (sPmp (sTks v i))) N.1 := .inr ⟨(sPmp (sTks v i)), hS2, hI2, rfl, fun s hs => by rw [hF5.2 _ (by omega) (by omega)]; exact hA3 s hs⟩
          have hkR : R32 (sRes (sPmp (sTks v i))) := by omega
          refine v_aload_n 1 dX3_letPass_72 rfl rfl ?_
          refine v_dup dX3_letPass_73 rfl ?_
          refine o_getI (u := (sPmp (sTks v i) 13)) lk_X3_181 rfl (st_o hb) ((xs_tim hX5).trans (by rw [sFl, if_neg (by decide), if_neg (by decide), if_neg (by decide)])) dX3_letPass_74 ?_
          refine v_iconst dX3_letPass_77 ?_
          refine v_iadd dX3_letPass_78 ?_
          refine v_putI lp_X3_181 rfl rfl (st_o hb) dX3_letPass_79 ?_
          refine o_wz hF (by omega) (fun K hF ei ej => ?_)
          have hX5 : XS b (sTks v (i + 1)) K.1 := xs_time hX5 (fun i h => ei i h) ej
          have hLK5 := fz_layX hF hLX
          have hO5 : WO 33 v (sDrw v) true K.1 := ⟨fun s hs => by rw [ei _ (by omega)]; exact hO5.1 s hs, fun m hm => by rw [ei _ (by omega)]; exact hO5.2 m hm⟩
          have hkn5 : pKn v (sRes (sPmp (sTks v i))) K.1 := .inr ⟨(sPmp (sTks v i)), hS2, hI2, rfl, fun s hs => by rw [ei _ (by omega)]; exact (hkn5.use hS2 hI2 rfl) s hs⟩
          have hv0 := sTks_v0 hI (i + 1)
          have hlR := sLw_R hI i
          refine v_iload dX3_letPass_82 rfl ?_
          refine v_aload_n 1 dX3_letPass_84 rfl rfl ?_
          refine o_getI (u := (sTks v (i + 1) 0)) lk_X3_135 rfl (st_o hb) (xs_vol hX5) dX3_letPass_85 ?_
          refine oSv2 (c_J9_min hlR (by omega)) k0_J9_min ki_J9_min ml_X3_248 (vRo_of hxR (by decide) (by decide)) dX3_letPass_88 (Nat.le_of_ble_eq_true rfl) ?_
          refine v_ist4 dX3_letPass_91 rfl ?_
          refine v_iinc5 dX3_letPass_93 rfl ?_
          refine v_goto 23 dX3_letPass_96 (by decide) ?_
          exact ih (i + 1) K _ _ (by omega) hF hX5 hO5 hkn5 hkR
        refine v_icmp_eq 64 dX3_letPass_42 (by decide) (by omega) (by omega) (fun h42 => ?_) (fun h42 => ?_)
        · skip
          first | (rw [← h42]; exact jn64 N hF2 hX1 hO2 (hkn2.use hS2 hI2 h42)) | exact jn64 N hF4 hX4 hO4 hA4
        · skip
          refine v_aload_n 0 dX3_letPass_45 rfl rfl ?_
          refine v_getR lk_X3_44 rfl (rfl : SH 0 = _) (ow_7 hLN) dX3_letPass_46 ?_
          refine v_aload_n 1 dX3_letPass_49 rfl rfl ?_
          refine oVm1 2 (c_X2_setPressures hb hLN hX1 hI2 wiB_33 (hO2.same hS2)) k0_X2_setPressures ki_X2_setPressures ml_X3_306 (wi_o wiB_33) (by decide) (vRo_of hxR (by decide) (by decide)) dX3_letPass_50 (Nat.le_of_ble_eq_true rfl) (fun N hN => ?_)
          obtain ⟨hF3, hO3, hP3⟩ := hN
          have hX3 := hX1.keep (fun i h1 h2 => hF3.2 i (by omega) (by omega))
          have hF3b : fz b (b + 10) 33 40 M N := fz_tr hF2 hF3 (fun i h1 h2 => by omega)
          have hLN3 := fz_layX hF3b hLX
          refine v_aload_n 0 dX3_letPass_53 rfl rfl ?_
          refine v_getR lk_X3_44 rfl (rfl : SH 0 = _) (ow_7 hLN3) dX3_letPass_54 ?_
          refine v_aload_n 1 dX3_letPass_57 rfl rfl ?_
          refine oVm1 2 (c_X2_addUpAsked hb hLN3 hX3 hI2 wiB_33 hO3 hP3) k0_X2_addUpAsked ki_X2_addUpAsked ml_X3_310 (wi_o wiB_33) (by decide) (vRo_of hxR (by decide) (by decide)) dX3_letPass_58 (Nat.le_of_ble_eq_true rfl) (fun N hN => ?_)
          obtain ⟨hF4a, hO4a, hA4a⟩ := hN
          have hX4 := hX3.keep (fun i h1 h2 => hF4a.2 i (by omega) (by omega))
          have hF4 : fz b (b + 10) 33 40 M N := fz_tr hF3b hF4a (fun i h1 h2 => by omega)
          have hO4 : WO 33 v (sDrw v) true N.1 := by
            have q := hO4a.same (u := v) (fun i hi => (hS2 i hi).symm)
            exact q
          have hA4 : ∀ s, s < 8 → N.1 (33 + 1 + 3) s = sSq (sPmp (sTks v i)) (sDrw (sPmp (sTks v i))) true s 24 := fun s hs => by rw [sm_drw hS2]; exact hA4a s hs
          refine v_iload dX3_letPass_61 rfl ?_
          refine v_ist3 dX3_letPass_63 rfl ?_
          first | (rw [← h42]; exact jn64 N hF2 hX1 hO2 (hkn2.use hS2 hI2 h42)) | exact jn64 N hF4 hX4 hO4 hA4
  exact lp23 n 0 N _ _ (by omega) hF (hX.keep (fun i h1 h2 => hF0.2 i (by omega) (by omega))) hO (.inl rfl) (by decide)
