/-! ===== the class: which pipes speak ===== -/
def sSk (v : Sg) (st : Nat) (pr : Bool) (s : Nat) : Nat → Nat
  | 0 => 0
  | k + 1 => if (sOpn v st pr s).testBit k = true then wth (sSk v st pr s k) k (decide (sRs v st pr s k = 0)) else sSk v st pr s k
theorem sSk_lt (v : Sg) (st : Nat) (pr : Bool) (s : Nat) : ∀ k, k ≤ 24 → sSk v st pr s k < 16777216
  | 0, _ => by rw [sSk]; decide
  | k + 1, hk => by
    rw [sSk]
    split
    · exact wth_lt _ (sSk_lt v st pr s k (by omega)) (by omega)
    · exact sSk_lt v st pr s k (by omega)
theorem sRs_o {v : Sg} {st : Nat} {pr : Bool} {s k : Nat} (h : sRs v st pr s k = 0) : (sOpn v st pr s).testBit k = true := by
  unfold sRs at h
  by_cases h1 : st.testBit s = false
  · rw [if_pos h1] at h; omega
  · rw [if_neg h1] at h
    by_cases h2 : (sOpn v st pr s).testBit k = false
    · rw [if_pos h2] at h; omega
    · simpa using h2
theorem sSk_bit (v : Sg) (st : Nat) (pr : Bool) (s : Nat) : ∀ k, k ≤ 24 → ∀ j, j < 32 → ((sSk v st pr s k).testBit j = true ↔ j < k ∧ sRs v st pr s j = 0)
  | 0, _, j, _ => by rw [sSk]; simp
  | k + 1, hk, j, hj => by
    have ih := sSk_bit v st pr s k (by omega) j hj
    rw [sSk]
    by_cases h : (sOpn v st pr s).testBit k = true
    · rw [if_pos h, wth_bit _ (by omega) j hj]
      by_cases e : j = k
      · subst e
        rw [if_pos rfl, decide_eq_true_eq]
        exact ⟨fun q => ⟨by omega, q⟩, fun q => q.2⟩
      · rw [if_neg e, ih]
        exact ⟨fun q => ⟨by omega, q.2⟩, fun q => ⟨by omega, q.2⟩⟩
    · rw [if_neg h, ih]
      refine ⟨fun q => ⟨by omega, q.2⟩, fun q => ⟨?_, q.2⟩⟩
      by_cases e : j = k
      · subst e
        exact absurd (sRs_o q.2) h
      · omega
theorem rs0_iff {v : Sg} {st : Nat} {pr : Bool} {s k : Nat} (ho : (sOpn v st pr s).testBit k = true) : sRs v st pr s k = 0 ↔ v (24 + 5 * s + 2) ≤ sPr v st pr (sMan v s) ∧ sGt v st pr (24 * s + k) = sAs v st pr (24 * s + k) ∧ ¬ sGt v st pr (24 * s + k) = 0 := by
  have hst : ¬ st.testBit s = false := fun q => by
    rw [sOpn, if_neg (by rw [q]; decide), Nat.zero_testBit] at ho
    cases ho
  have ho2 : ¬ (sOpn v st pr s).testBit k = false := by rw [ho]; decide
  have hg : sGt v st pr (24 * s + k) ≤ sAs v st pr (24 * s + k) := by unfold sGt; omega
  rw [sRs, if_neg hst, if_neg ho2]
  by_cases h1 : sPr v st pr (sMan v s) < v (24 + 5 * s + 2)
  · rw [if_pos h1]
    exact ⟨fun q => by omega, fun q => by omega⟩
  · rw [if_neg h1]
    by_cases h2 : sGt v st pr (24 * s + k) < sAs v st pr (24 * s + k)
    · rw [if_pos h2]
      exact ⟨fun q => by omega, fun q => by omega⟩
    · rw [if_neg h2]
      by_cases h3 : sAs v st pr (24 * s + k) = 0
      · rw [if_pos h3]
        exact ⟨fun q => by omega, fun q => by omega⟩
      · rw [if_neg h3]
        exact ⟨fun _ => ⟨by omega, by omega, by omega⟩, fun _ => rfl⟩
/-- what a Wind holds after it listened -/
def WQ (w : Nat) (v : Sg) (st : Nat) (pr : Bool) (p : Nat) (f : Nat → Nat → Int) : Prop := ∀ t k, k < 24 → 24 * t + k < p → (sOpn v st pr t).testBit k = true → f (w + 1 + 4) (24 * t + k) = sGt v st pr (24 * t + k)
def WL (w : Nat) (v : Sg) (st : Nat) (pr : Bool) (f : Nat → Nat → Int) : Prop := WO w v st pr f ∧ WP w v st pr f ∧ WQ w v st pr 192 f ∧ ∀ s, s < 8 → f (w + 1 + 5) s = ((sSk v st pr s 24 : Nat) : Int)
theorem dec_bP (p : Prop) [Decidable p] : decide (bP p ≠ 0) = decide p := by
  by_cases h : p
  · rw [bP_t h]; simp [h]
  · rw [bP_f h]; simp [h]
theorem lf_c {v : Sg} (hI : sInv v) {st : Nat} {pr : Bool} {s k : Nat} (hs : s < 8) (hk : k < 24) (h : ¬ (sOpn v st pr s).testBit k = true) : sLf v st pr (24 * s + k) = sLf v st pr (24 * s + (k + 1)) := by
  have hb := sLf_b hI st pr (24 * s + k) (by omega)
  rw [← Nat.add_assoc, sLf, sAs_c hk h]
  omega
set_option maxRecDepth 100000 in
set_option maxHeartbeats 1000000 in
theorem c_X2_listen {l : Launch} {G : vGG} {M : Mem} {v : Sg} {b : Nat} (hb : stB b) (hLX : LayX M.2) (hX : XS b v M.1) (hI : sInv v) {w : Nat} (hw : wiB w) {st : Nat} {pr : Bool} (hst : st < 256) : Co l yX2_listen cX2_listen 11 none (rmo 4 87) G [aR (some w), aR (some b), aI (st : Int), aI (bP (pr = true))] M (fun r M' => r = none ∧ fz w (w + 7) 1 0 M M' ∧ WL w v st pr M'.1) := by
  refine Co.ofV (plainFor_of_name (by decide)) rfl rfl ?_
  intro x hxl hxR hlk hrt Q hQ
  have hbl := stB_lt hb
  have hwl := wiB_lt hw
  have hbw := bw_d hb hw
  have hbe := iv_bel hI
  have hse := iv_set hI
  have hXK := hX
  show vO x Q G cX2_listen RX2 0 [some (aR (some w)), some (aR (some b)), some (aI (st : Int)), some (aI (bP (pr = true))), none, none, none, none, none, none, none] [] M
  refine v_aload_n 0 dX2_listen_0 rfl rfl ?_
  refine v_aload_n 1 dX2_listen_1 rfl rfl ?_
  refine v_iload_n 2 dX2_listen_2 rfl rfl ?_
  refine v_iload_n 3 dX2_listen_3 rfl rfl ?_
  refine oVm3 2 (c_X2_openPipes hb hLX hX hI hw hst) k0_X2_openPipes ki_X2_openPipes ml_X2_30 (wi_o hw) (by decide) (vRo_of hxR (by decide) (by decide)) dX2_listen_4 (Nat.le_of_ble_eq_true rfl) (fun N hN => ?_)
  obtain ⟨hF, hO⟩ := hN
  have hLK := fz_layX hF hLX
  have hXK := hX.keep (fun i h1 h2 => hF.2 i (by omega) (by omega))
  refine v_aload_n 0 dX2_listen_7 rfl rfl ?_
  refine v_aload_n 1 dX2_listen_8 rfl rfl ?_
  refine oVm1 2 (c_X2_setPressures hb hLK hXK hI hw hO) k0_X2_setPressures ki_X2_setPressures ml_X2_34 (wi_o hw) (by decide) (vRo_of hxR (by decide) (by decide)) dX2_listen_9 (Nat.le_of_ble_eq_true rfl) (fun N hN => ?_)
  obtain ⟨hF2, hO, hP⟩ := hN
  have hF := fz_tr hF hF2 (fun i h1 h2 => ⟨h1, h2⟩)
  have hLK := fz_layX hF hLX
  have hXK := hX.keep (fun i h1 h2 => hF.2 i (by omega) (by omega))
  refine v_aload_n 1 dX2_listen_12 rfl rfl ?_
  refine o_getI (u := (v 0)) lk_X2_38 rfl (st_o hb) (xs_vol hXK) dX2_listen_13 ?_
  refine v_ist4 dX2_listen_16 rfl ?_
  refine v_iconst dX2_listen_18 ?_
  refine v_ist5 dX2_listen_19 rfl ?_
  have lp21 : ∀ (dd s : Nat) (K : Mem) (c6 c7 c8 c9 c10 : Option AV), s + dd = 8 → fz w (w + 7) 1 0 M K → WO w v st pr K.1 → WP w v st pr K.1 → WQ w v st pr (24 * s) K.1 → (∀ t, t < s → K.1 (w + 1 + 5) t = ((sSk v st pr t 24 : Nat) : Int)) → vO x Q G cX2_listen RX2 21 [some (aR (some w)), some (aR (some b)), some (aI (st : Int)), some (aI (bP (pr = true))), some (aI (sLf v st pr (24 * s))), some (aI (s : Int)), c6, c7, c8, c9, c10] [] K := by
    intro dd
    induction dd with
    | zero =>
      intro s K c6 c7 c8 c9 c10 hd hF hO hP hQ2 hS
      obtain rfl : s = 8 := by omega
      have hLK := fz_layX hF hLX
      have hXK := hX.keep (fun i h1 h2 => hF.2 i (by omega) (by omega))
      refine v_iload dX2_listen_21 rfl ?_
      refine v_bipush dX2_listen_23 (by decide) ?_
      refine v_icmp_ge 187 dX2_listen_25 (by decide) (by omega) (by decide) (fun h25 => ?_) (fun h25 => ?_)
      · skip
        refine o_ret hQ hlk hrt dX2_listen_187 ?_
        exact ⟨rfl, hF, hO, hP, hQ2, fun t ht => hS t ht⟩
      · skip
        exact absurd h25 (by omega)
    | succ dd ih =>
      intro s K c6 c7 c8 c9 c10 hd hF hO hP hQ2 hS
      have hLK := fz_layX hF hLX
      have hXK := hX.keep (fun i h1 h2 => hF.2 i (by omega) (by omega))
      have hmn := sMan_lt hI (show s < 8 by omega)
      have hst1 := iv_st hI (show s < 8 by omega)
      have hpb := sPr_b hI st pr hmn.1
      refine v_iload dX2_listen_21 rfl ?_
      refine v_bipush dX2_listen_23 (by decide) ?_
      refine v_icmp_ge 187 dX2_listen_25 (by decide) (by omega) (by decide) (fun h25 => ?_) (fun h25 => ?_)
      · skip
        exact absurd h25 (by omega)
      · skip
        refine v_aload_n 0 dX2_listen_28 rfl rfl ?_
        refine v_getR lk_X2_18 rfl (wi_o hw) (hLK.2.1 w hw 2 (by decide)) dX2_listen_29 ?_
        refine v_aload_n 1 dX2_listen_32 rfl rfl ?_
        refine v_iload dX2_listen_33 rfl ?_
        refine oVv1 0 (c_X0_manualOf hb hLK hXK hI (by omega)) k0_X0_manualOf ki_X0_manualOf ml_X2_44 (st_o hb) (by decide) (vRo_of hxR (by decide) (by decide)) dX2_listen_35 (Nat.le_of_ble_eq_true rfl) ?_
        refine o_iald (j := sMan v s) (u := (sPr v st pr (sMan v s))) (wi_a2 hw) (by omega) (by omega) (hP _ hmn.1) dX2_listen_38 ?_
        refine v_aload_n 1 dX2_listen_39 rfl rfl ?_
        refine v_getR lk_X2_48 rfl (st_o hb) (hLK.1 b hb 2 (by decide)) dX2_listen_40 ?_
        refine v_iload dX2_listen_43 rfl ?_
        refine o_iald (j := s) (u := v (24 + 5 * (s) + 2)) (st_a2 hb) (by omega) (by omega) (xs_lea hXK (by omega)) dX2_listen_45 ?_
        have jn54 : ∀ z : Int, z = bP (v (24 + 5 * s + 2) ≤ sPr v st pr (sMan v s)) → vO x Q G cX2_listen RX2 54 [some (aR (some w)), some (aR (some b)), some (aI (st : Int)), some (aI (bP (pr = true))), some (aI (sLf v st pr (24 * s))), some (aI (s : Int)), c6, c7, c8, c9, c10] [aI z] K := by
          intro z hz
          subst hz
          refine v_ist6 dX2_listen_54 rfl ?_
          refine v_aload_n 0 dX2_listen_56 rfl rfl ?_
          refine v_getR lk_X2_27 rfl (wi_o hw) (hLK.2.1 w hw 5 (by decide)) dX2_listen_57 ?_
          refine v_iload dX2_listen_60 rfl ?_
          refine v_iconst dX2_listen_62 ?_
          refine o_iast (j := s) (by omega) (wi_a5 hw) (by omega) (by omega) dX2_listen_63 ?_
          refine o_wz hF (by omega) (fun K hF ei ej => ?_)
          have hLK := fz_layX hF hLX
          have hXK := hX.keep (fun i h1 h2 => hF.2 i (by omega) (by omega))
          have hO : WO w v st pr K.1 := ⟨fun s hs => by rw [ei _ (by omega)]; exact hO.1 s hs, fun m hm => by rw [ei _ (by omega)]; exact hO.2 m hm⟩
          have hP : WP w v st pr K.1 := fun m hm => by rw [ei _ (by omega)]; exact hP m hm
          have hQ2 : WQ w v st pr (24 * s) K.1 := fun t j hj h ho => by rw [ei _ (by omega)]; exact hQ2 t j hj h ho
          have hS : ∀ t, t < s → K.1 (w + 1 + 5) t = ((sSk v st pr t 24 : Nat) : Int) := fun t h => by rw [ej t, if_neg (by omega)]; exact hS t h
          have hSs : K.1 (w + 1 + 5) s = ((sSk v st pr s 0 : Nat) : Int) := by rw [ej s, if_pos rfl]; rfl
          refine v_iconst dX2_listen_64 ?_
          refine v_ist7 dX2_listen_65 rfl ?_
          have lp67 : ∀ (dd2 k : Nat) (K : Mem) (c8 c9 c10 : Option AV), k + dd2 = 24 → fz w (w + 7) 1 0 M K → WO w v st pr K.1 → WP w v st pr K.1 → WQ w v st pr (24 * s + k) K.1 → (∀ t, t < s → K.1 (w + 1 + 5) t = ((sSk v st pr t 24 : Nat) : Int)) → K.1 (w + 1 + 5) s = ((sSk v st pr s k : Nat) : Int) → vO x Q G cX2_listen RX2 67 [some (aR (some w)), some (aR (some b)), some (aI (st : Int)), some (aI (bP (pr = true))), some (aI (sLf v st pr (24 * s + k))), some (aI (s : Int)), some (aI (bP (v (24 + 5 * s + 2) ≤ sPr v st pr (sMan v s)))), some (aI (k : Int)), c8, c9, c10] [] K := by
            intro dd2
            induction dd2 with
            | zero =>
              intro k K c8 c9 c10 hd2 hF hO hP hQ2 hS hSs
              obtain rfl : k = 24 := by omega
              have hLK := fz_layX hF hLX
              have hXK := hX.keep (fun i h1 h2 => hF.2 i (by omega) (by omega))
              refine v_iload dX2_listen_67 rfl ?_
              refine v_bipush dX2_listen_69 (by decide) ?_
              refine v_icmp_ge 181 dX2_listen_71 (by decide) (by omega) (by decide) (fun h71 => ?_) (fun h71 => ?_)
              · skip
                refine v_iinc5 dX2_listen_181 rfl ?_
                refine v_goto 21 dX2_listen_184 (by decide) ?_
                exact ih (s + 1) K _ _ _ _ _ (by omega) hF hO hP hQ2 (fun t h => by by_cases e : t = s; rw [e]; exact hSs; exact hS t (by omega))
              · skip
                exact absurd h71 (by omega)
            | succ dd2 ih2 =>
              intro k K c8 c9 c10 hd2 hF hO hP hQ2 hS hSs
              have hLK := fz_layX hF hLX
              have hXK := hX.keep (fun i h1 h2 => hF.2 i (by omega) (by omega))
              have hab := sAs_b hI st pr (p := 24 * s + k) (by omega)
              have hlb := sLf_b hI st pr (24 * s + k) (by omega)
              refine v_iload dX2_listen_67 rfl ?_
              refine v_bipush dX2_listen_69 (by decide) ?_
              refine v_icmp_ge 181 dX2_listen_71 (by decide) (by omega) (by decide) (fun h71 => ?_) (fun h71 => ?_)
              · skip
                exact absurd h71 (by omega)
              · skip
                refine v_aload_n 0 dX2_listen_74 rfl rfl ?_
                refine v_getR lk_X2_9 rfl (wi_o hw) (hLK.2.1 w hw 0 (by decide)) dX2_listen_75 ?_
                refine v_iload dX2_listen_78 rfl ?_
                refine o_iald (j := s) (u := ((sOpn v st pr (s) : Nat) : Int)) (wi_a0 hw) (by omega) (by omega) (hO.1 _ (by omega)) dX2_listen_80 ?_
                refine v_iload dX2_listen_81 rfl ?_
                have hol := sOpn_lt hI st pr (show s < 8 by omega)
                refine oSNv2 (c_X3_isIn (Int.natCast_nonneg _) (by omega) (by omega)) k0_X3_isIn ki_X3_isIn ml_X2_51 (vRo_of hxR (by decide) (by decide)) dX2_listen_83 (Nat.le_of_ble_eq_true rfl) ?_
                refine v_if_eq 175 dX2_listen_86 (by decide) (bP_R _) (fun h86 => ?_) (fun h86 => ?_)
                · skip
                  have g86 : ¬ (sOpn v st pr s).testBit k = true := by simpa [bt] using bP_0.mp h86
                  refine v_iinc7 dX2_listen_175 rfl ?_
                  refine v_goto 67 dX2_listen_178 (by decide) ?_
                  first | exact ih2 (k + 1) K _ _ _ (by omega) hF hO hP hQ3 hS hSs3 | (rw [lf_c hI (show s < 8 by omega) (show k < 24 by omega) g86]; exact ih2 (k + 1) K _ _ _ (by omega) hF hO hP (fun t j hj h ho => by by_cases e : 24 * t + j = 24 * s + k; have e1 : t = s := (by omega); have e2 : j = k := (by omega); rw [e1, e2] at ho; exact absurd ho g86; exact hQ2 t j hj (by omega) ho) hS (by rw [sSk, if_neg g86]; exact hSs))
                · skip
                  have g86 : (sOpn v st pr s).testBit k = true := by simpa [bt] using bP_n0.mp h86
                  refine v_aload_n 0 dX2_listen_89 rfl rfl ?_
                  refine v_aload_n 1 dX2_listen_90 rfl rfl ?_
                  refine v_iload dX2_listen_91 rfl ?_
                  refine v_iload dX2_listen_93 rfl ?_
                  refine oVv3 2 (c_X2_asks hb hLK hXK hI hw hP (by omega) (by omega)) k0_X2_asks ki_X2_asks ml_X2_55 (wi_o hw) (by decide) (vRo_of hxR (by decide) (by decide)) dX2_listen_95 (Nat.le_of_ble_eq_true rfl) ?_
                  refine o_eqI (u := sAs v st pr (24 * s + k)) (sAs_o (by omega) g86).symm ?_
                  refine v_ist8 dX2_listen_98 rfl ?_
                  refine v_iload dX2_listen_100 rfl ?_
                  refine v_iload dX2_listen_102 rfl ?_
                  refine oSv2 (c_J9_min (by omega) (by omega)) k0_J9_min ki_J9_min ml_X2_59 (vRo_of hxR (by decide) (by decide)) dX2_listen_104 (Nat.le_of_ble_eq_true rfl) ?_
                  refine o_eqI (u := sGt v st pr (24 * s + k)) rfl ?_
                  refine v_ist9 dX2_listen_107 rfl ?_
                  refine v_aload_n 0 dX2_listen_109 rfl rfl ?_
                  refine v_getR lk_X2_24 rfl (wi_o hw) (hLK.2.1 w hw 4 (by decide)) dX2_listen_110 ?_
                  refine v_iload dX2_listen_113 rfl ?_
                  refine v_iload dX2_listen_115 rfl ?_
                  refine oSNv2 (c_X3_pipeIndex) k0_X3_pipeIndex ki_X3_pipeIndex ml_X2_65 (vRo_of hxR (by decide) (by decide)) dX2_listen_117 (Nat.le_of_ble_eq_true rfl) ?_
                  refine v_iload dX2_listen_120 rfl ?_
                  refine o_iast (j := 24 * s + k) (by omega) (wi_a4 hw) (by omega) (by omega) dX2_listen_122 ?_
                  refine o_wz hF (by omega) (fun K hF ei ej => ?_)
                  have hLK := fz_layX hF hLX
                  have hXK := hX.keep (fun i h1 h2 => hF.2 i (by omega) (by omega))
                  have hO : WO w v st pr K.1 := ⟨fun s hs => by rw [ei _ (by omega)]; exact hO.1 s hs, fun m hm => by rw [ei _ (by omega)]; exact hO.2 m hm⟩
                  have hP : WP w v st pr K.1 := fun m hm => by rw [ei _ (by omega)]; exact hP m hm
                  have hQ3 : WQ w v st pr (24 * s + (k + 1)) K.1 := fun t j hj h ho => by by_cases e : 24 * t + j = 24 * s + k; rw [ej, if_pos e, e]; rw [ej, if_neg e]; exact hQ2 t j hj (by omega) ho
                  have hS : ∀ t, t < s → K.1 (w + 1 + 5) t = ((sSk v st pr t 24 : Nat) : Int) := fun t h => by rw [ei _ (by omega)]; exact hS t h
                  have hSs : K.1 (w + 1 + 5) s = ((sSk v st pr s k : Nat) : Int) := by rw [ei _ (by omega)]; exact hSs
                  have hgb : 0 ≤ sGt v st pr (24 * s + k) ∧ sGt v st pr (24 * s + k) ≤ 45 := by unfold sGt; omega
                  refine v_iload dX2_listen_123 rfl ?_
                  refine v_iload dX2_listen_125 rfl ?_
                  refine v_isub dX2_listen_127 ?_
                  refine v_ist4 dX2_listen_128 rfl ?_
                  refine v_iload dX2_listen_130 rfl ?_
                  have jn152 : ∀ z : Int, z = bP (sRs v st pr s k = 0) → vO x Q G cX2_listen RX2 152 [some (aR (some w)), some (aR (some b)), some (aI (st : Int)), some (aI (bP (pr = true))), some (aI (sLf v st pr (24 * s + k) - sGt v st pr (24 * s + k))), some (aI (s : Int)), some (aI (bP (v (24 + 5 * s + 2) ≤ sPr v st pr (sMan v s)))), some (aI (k : Int)), some (aI (sAs v st pr (24 * s + k))), some (aI (sGt v st pr (24 * s + k))), c10] [aI z] K := by
                    intro z hz
                    subst hz
                    refine v_ist10 dX2_listen_152 rfl ?_
                    refine v_aload_n 0 dX2_listen_154 rfl rfl ?_
                    refine v_getR lk_X2_27 rfl (wi_o hw) (hLK.2.1 w hw 5 (by decide)) dX2_listen_155 ?_
                    refine v_iload dX2_listen_158 rfl ?_
                    refine v_aload_n 0 dX2_listen_160 rfl rfl ?_
                    refine v_getR lk_X2_27 rfl (wi_o hw) (hLK.2.1 w hw 5 (by decide)) dX2_listen_161 ?_
                    refine v_iload dX2_listen_164 rfl ?_
                    refine o_iald (j := s) (u := ((sSk v st pr s k : Nat) : Int)) (wi_a5 hw) (by omega) (by omega) hSs dX2_listen_166 ?_
                    refine v_iload dX2_listen_167 rfl ?_
                    refine v_iload dX2_listen_169 rfl ?_
                    have hsk := sSk_lt v st pr s k (by omega)
                    refine oSNv3 (c_X3_with (Int.natCast_nonneg _) (by omega) (by omega) (bP_R _)) k0_X3_with ki_X3_with ml_X2_68 (vRo_of hxR (by decide) (by decide)) dX2_listen_171 (Nat.le_of_ble_eq_true rfl) ?_
                    refine o_iast (j := s) (by omega) (wi_a5 hw) (by omega) (by omega) dX2_listen_174 ?_
                    refine o_wz hF (by omega) (fun K hF ei ej => ?_)
                    have hLK := fz_layX hF hLX
                    have hXK := hX.keep (fun i h1 h2 => hF.2 i (by omega) (by omega))
                    have hO : WO w v st pr K.1 := ⟨fun s hs => by rw [ei _ (by omega)]; exact hO.1 s hs, fun m hm => by rw [ei _ (by omega)]; exact hO.2 m hm⟩
                    have hP : WP w v st pr K.1 := fun m hm => by rw [ei _ (by omega)]; exact hP m hm
                    have hQ3 : WQ w v st pr (24 * s + (k + 1)) K.1 := fun t j hj h ho => by rw [ei _ (by omega)]; exact hQ3 t j hj h ho
                    have hS : ∀ t, t < s → K.1 (w + 1 + 5) t = ((sSk v st pr t 24 : Nat) : Int) := fun t h => by rw [ej t, if_neg (by omega)]; exact hS t h
                    have hSs3 : K.1 (w + 1 + 5) s = ((sSk v st pr s (k + 1) : Nat) : Int) := by rw [ej s, if_pos rfl, sSk, if_pos g86, Int.toNat_natCast, dec_bP]
                    refine v_iinc7 dX2_listen_175 rfl ?_
                    refine v_goto 67 dX2_listen_178 (by decide) ?_
                    first | exact ih2 (k + 1) K _ _ _ (by omega) hF hO hP hQ3 hS hSs3 | (rw [lf_c hI (show s < 8 by omega) (show k < 24 by omega) g86]; exact ih2 (k + 1) K _ _ _ (by omega) hF hO hP (fun t j hj h ho => by by_cases e : 24 * t + j = 24 * s + k; have e1 : t = s := (by omega); have e2 : j = k := (by omega); rw [e1, e2] at ho; exact absurd ho g86; exact hQ2 t j hj (by omega) ho) hS (by rw [sSk, if_neg g86]; exact hSs))
                  refine v_if_eq 151 dX2_listen_132 (by decide) (bP_R _) (fun h132 => ?_) (fun h132 => ?_)
                  · skip
                    have g1 := bP_0.mp h132
                    refine v_iconst dX2_listen_151 ?_
                    first | exact jn152 _ (bP_f (fun q => g1 ((rs0_iff g86).mp q).1)).symm | exact jn152 _ (bP_f (fun q => h139 ((rs0_iff g86).mp q).2.1)).symm | exact jn152 _ (bP_f (fun q => ((rs0_iff g86).mp q).2.2 h144)).symm | exact jn152 _ (bP_t ((rs0_iff g86).mpr ⟨g1, h139, h144⟩)).symm
                  · skip
                    have g1 := bP_n0.mp h132
                    refine v_iload dX2_listen_135 rfl ?_
                    refine v_iload dX2_listen_137 rfl ?_
                    refine v_icmp_ne 151 dX2_listen_139 (by decide) (by omega) (by omega) (fun h139 => ?_) (fun h139 => ?_)
                    · skip
                      refine v_iconst dX2_listen_151 ?_
                      first | exact jn152 _ (bP_f (fun q => g1 ((rs0_iff g86).mp q).1)).symm | exact jn152 _ (bP_f (fun q => h139 ((rs0_iff g86).mp q).2.1)).symm | exact jn152 _ (bP_f (fun q => ((rs0_iff g86).mp q).2.2 h144)).symm | exact jn152 _ (bP_t ((rs0_iff g86).mpr ⟨g1, h139, h144⟩)).symm
                    · skip
                      refine v_iload dX2_listen_142 rfl ?_
                      refine v_if_eq 151 dX2_listen_144 (by decide) (by omega) (fun h144 => ?_) (fun h144 => ?_)
                      · skip
                        refine v_iconst dX2_listen_151 ?_
                        first | exact jn152 _ (bP_f (fun q => g1 ((rs0_iff g86).mp q).1)).symm | exact jn152 _ (bP_f (fun q => h139 ((rs0_iff g86).mp q).2.1)).symm | exact jn152 _ (bP_f (fun q => ((rs0_iff g86).mp q).2.2 h144)).symm | exact jn152 _ (bP_t ((rs0_iff g86).mpr ⟨g1, h139, h144⟩)).symm
                      · skip
                        refine v_iconst dX2_listen_147 ?_
                        refine v_goto 152 dX2_listen_148 (by decide) ?_
                        first | exact jn152 _ (bP_f (fun q => g1 ((rs0_iff g86).mp q).1)).symm | exact jn152 _ (bP_f (fun q => h139 ((rs0_iff g86).mp q).2.1)).symm | exact jn152 _ (bP_f (fun q => ((rs0_iff g86).mp q).2.2 h144)).symm | exact jn152 _ (bP_t ((rs0_iff g86).mpr ⟨g1, h139, h144⟩)).symm
          exact lp67 24 0 K _ _ _ rfl hF hO hP hQ2 hS hSs
        refine v_icmp_lt 53 dX2_listen_46 (by decide) (by omega) (by omega) (fun h46 => ?_) (fun h46 => ?_)
        · skip
          refine v_iconst dX2_listen_53 ?_
          first | exact jn54 _ (bP_f (by omega)).symm | exact jn54 _ (bP_t (by omega)).symm
        · skip
          refine v_iconst dX2_listen_49 ?_
          refine v_goto 54 dX2_listen_50 (by decide) ?_
          first | exact jn54 _ (bP_f (by omega)).symm | exact jn54 _ (bP_t (by omega)).symm
  exact lp21 8 0 N _ _ _ _ _ rfl hF hO hP (fun t k _ h => absurd h (by omega)) (fun t h => absurd h (by omega))
