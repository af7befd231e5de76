/-! ===== the class: what is open, pressures, what is asked ===== -/
theorem bw_d {b w : Nat} (hb : stB b) (hw : wiB w) : b + 10 ≤ w ∨ w + 7 ≤ b := by
  unfold stB at hb
  unfold wiB at hw
  omega
theorem sAct_f (v : Sg) (m : Nat) : sAct v false m = 0 := by
  have h : sAct0 v false = 0 := by
    rw [sAct0]
    split
    · show kOct 0 = 0
      decide
    · rfl
  rw [sAct]
  split
  · exact h
  · rw [sAct1, h]
    split
    · show (0 : Nat) ||| 0 = 0
      decide
    · rfl
section OWZ
variable {x : vXX} {Q : State → Prop} {G : vGG} {cc : ByteArray} {own : String} {pc : Nat} {ls : List (Option AV)} {st : List AV} {M0 M : Mem}
theorem o_wz {i k a c a2 c2 : Nat} {z : Int} (hF : fz a c a2 c2 M0 M) (hi : (a ≤ i ∧ i < c) ∨ (a2 ≤ i ∧ i < c2)) (kk : ∀ K : Mem, fz a c a2 c2 M0 K → (∀ i', i' ≠ i → K.1 i' = M.1 i') → (∀ j, K.1 i j = if j = k then z else M.1 i j) → vO x Q G cc own pc ls st K) : vO x Q G cc own pc ls st (vup M.1 i k z, M.2) := by
  have e : ∀ i', i' ≠ i → vup M.1 i k z i' = M.1 i' := fun i' h => by funext j; rw [vup_o (.inl h)]
  exact kk _ ⟨hF.1, fun i' h1 h2 => (e i' (by omega)).trans (hF.2 i' h1 h2)⟩ e (fun j => by dsimp only; rw [vup_in])
end OWZ
def WO (w : Nat) (v : Sg) (st : Nat) (pr : Bool) (f : Nat → Nat → Int) : Prop := (∀ s, s < 8 → f (w + 1 + 0) s = ((sOpn v st pr s : Nat) : Int)) ∧ ∀ m, m < 2 → f (w + 1 + 1) m = sNs v st pr m 192
def WP (w : Nat) (v : Sg) (st : Nat) (pr : Bool) (f : Nat → Nat → Int) : Prop := ∀ m, m < 2 → f (w + 1 + 2) m = sPr v st pr m
theorem sNs_e {v : Sg} {st : Nat} {pr : Bool} {s k m : Nat} (hk : k < 24) (h : ¬ (sOpn v st pr s).testBit k = true) : sNs v st pr m (24 * s + (k + 1)) = sNs v st pr m (24 * s + k) := by
  rw [← Nat.add_assoc, sNs, (p_div hk).1, (p_div hk).2, sNa, if_neg h]
  split <;> omega
theorem sNs_t {v : Sg} {st : Nat} {pr : Bool} {s k m : Nat} (hk : k < 24) (h : (sOpn v st pr s).testBit k = true) : sNs v st pr m (24 * s + (k + 1)) = sNs v st pr m (24 * s + k) + (if sMan v s = m then sNeed v s k else 0) := by
  rw [← Nat.add_assoc, sNs, (p_div hk).1, (p_div hk).2, sNa, if_pos h]
theorem op_or {v : Sg} (hI : sInv v) {pr : Bool} {s : Nat} (hs : s < 8) : vor (v (256 + s)) ((sAct v pr (sMan v s) : Nat) : Int) = (((sAct v pr (sMan v s) ||| (v (256 + s)).toNat : Nat)) : Int) := by
  have h1 := (iv_st hI hs).2.2.2.2
  have h2 := sAct_lt hI pr (sMan v s)
  rw [nu_or (by omega) (by omega) (by omega) (by omega), Int.toNat_natCast, Nat.or_comm]
set_option maxRecDepth 100000 in
set_option maxHeartbeats 400000 in
theorem c_X2_openPipes {l : Launch} {G : vGG} {M : Mem} {v : Sg} {b : Nat} (hb : stB b) (hLX : LayX M.2) (hX : XS b v M.1) (hI : sInv v) {w : Nat} (hw : wiB w) {st : Nat} {pr : Bool} (hst : st < 256) : Co l yX2_openPipes cX2_openPipes 8 none (rmo 1 22) G [aR (some w), aR (some b), aI (st : Int), aI (bP (pr = true))] M (fun r M' => r = none ∧ fz w (w + 7) 1 0 M M' ∧ WO w v st pr M'.1) := by
  refine Co.ofV (plainFor_of_name (by decide)) rfl rfl ?_
  intro x hxl hxR hlk hrt Q hQ
  have hbl := stB_lt hb
  have hwl := wiB_lt hw
  have hbw := bw_d hb hw
  show vO x Q G cX2_openPipes RX2 0 [some (aR (some w)), some (aR (some b)), some (aI (st : Int)), some (aI (bP (pr = true))), none, none, none, none] [] M
  refine v_iconst dX2_openPipes_0 ?_
  refine v_ist4 dX2_openPipes_1 rfl ?_
  have lp3 : ∀ (dd k : Nat) (K : Mem), k + dd = 2 → fz w (w + 7) 1 0 M K → (∀ m, m < k → K.1 (w + 1 + 1) m = 0) → vO x Q G cX2_openPipes RX2 3 [some (aR (some w)), some (aR (some b)), some (aI (st : Int)), some (aI (bP (pr = true))), some (aI (k : Int)), none, none, none] [] K := by
    intro dd
    induction dd with
    | zero =>
      intro k K hd hF hz
      obtain rfl : k = 2 := by omega
      have hLK := fz_layX hF hLX
      have hXK := hX.keep (fun i h1 h2 => hF.2 i (by omega) (by omega))
      refine v_iload dX2_openPipes_3 rfl ?_
      refine v_iconst dX2_openPipes_5 ?_
      refine v_icmp_ge 23 dX2_openPipes_6 (by decide) (by omega) (by decide) (fun h6 => ?_) (fun h6 => ?_)
      · skip
        refine v_iconst dX2_openPipes_23 ?_
        refine v_ist4 dX2_openPipes_24 rfl ?_
        have lp26 : ∀ (dd s : Nat) (K : Mem) (c5 c6 c7 : Option AV), s + dd = 8 → fz w (w + 7) 1 0 M K → (∀ t, t < s → K.1 (w + 1 + 0) t = ((sOpn v st pr t : Nat) : Int)) → (∀ m, m < 2 → K.1 (w + 1 + 1) m = sNs v st pr m (24 * s)) → vO x Q G cX2_openPipes RX2 26 [some (aR (some w)), some (aR (some b)), some (aI (st : Int)), some (aI (bP (pr = true))), some (aI (s : Int)), c5, c6, c7] [] K := by
          intro dd
          induction dd with
          | zero =>
            intro s K c5 c6 c7 hd hF ho hn
            obtain rfl : s = 8 := by omega
            have hLK := fz_layX hF hLX
            have hXK := hX.keep (fun i h1 h2 => hF.2 i (by omega) (by omega))
            refine v_iload dX2_openPipes_26 rfl ?_
            refine v_bipush dX2_openPipes_28 (by decide) ?_
            refine v_icmp_ge 142 dX2_openPipes_30 (by decide) (by omega) (by decide) (fun h30 => ?_) (fun h30 => ?_)
            · skip
              refine o_ret hQ hlk hrt dX2_openPipes_142 ?_
              exact ⟨rfl, hF, fun s hs => ho s hs, fun m hm => hn m hm⟩
            · skip
              exact absurd h30 (by omega)
          | succ dd ih =>
            intro s K c5 c6 c7 hd hF ho hn
            have hLK := fz_layX hF hLX
            have hXK := hX.keep (fun i h1 h2 => hF.2 i (by omega) (by omega))
            refine v_iload dX2_openPipes_26 rfl ?_
            refine v_bipush dX2_openPipes_28 (by decide) ?_
            refine v_icmp_ge 142 dX2_openPipes_30 (by decide) (by omega) (by decide) (fun h30 => ?_) (fun h30 => ?_)
            · skip
              exact absurd h30 (by omega)
            · skip
              refine v_aload_n 1 dX2_openPipes_33 rfl rfl ?_
              refine v_iload dX2_openPipes_34 rfl ?_
              refine oVv1 0 (c_X0_manualOf hb hLK hXK hI (by omega)) k0_X0_manualOf ki_X0_manualOf ml_X2_44 (st_o hb) (by decide) (vRo_of hxR (by decide) (by decide)) dX2_openPipes_36 (Nat.le_of_ble_eq_true rfl) ?_
              have hmn := sMan_lt hI (show s < 8 by omega)
              refine v_ist5 dX2_openPipes_39 rfl ?_
              refine v_aload_n 1 dX2_openPipes_41 rfl rfl ?_
              refine v_getR lk_X2_72 rfl (st_o hb) (hLK.1 b hb 4 (by decide)) dX2_openPipes_42 ?_
              refine v_iload dX2_openPipes_45 rfl ?_
              refine o_iald (j := s) (u := v (256 + (s))) (st_a4 hb) (by omega) (by omega) (xs_cip hXK (by omega)) dX2_openPipes_47 ?_
              refine v_iload_n 3 dX2_openPipes_48 rfl rfl ?_
              have jn62 : ∀ z : Int, z = ((sAct v pr (sMan v s) : Nat) : Int) → vO x Q G cX2_openPipes RX2 62 [some (aR (some w)), some (aR (some b)), some (aI (st : Int)), some (aI (bP (pr = true))), some (aI (s : Int)), some (aI ((sMan v s : Nat) : Int)), c6, c7] [aI z, aI (v (256 + s))] K := by
                intro z hz
                subst hz
                refine v_ior dX2_openPipes_62 ?_
                refine o_eqI (op_or hI (show s < 8 by omega)) ?_
                obtain ⟨z6, hz6⟩ : ∃ z6, z6 = (((sAct v pr (sMan v s) ||| (v (256 + s)).toNat : Nat)) : Int) := ⟨_, rfl⟩
                rw [← hz6]
                refine v_ist6 dX2_openPipes_63 rfl ?_
                refine v_aload_n 0 dX2_openPipes_65 rfl rfl ?_
                refine v_getR lk_X2_9 rfl (wi_o hw) (hLK.2.1 w hw 0 (by decide)) dX2_openPipes_66 ?_
                refine v_iload dX2_openPipes_69 rfl ?_
                refine v_iload_n 2 dX2_openPipes_71 rfl rfl ?_
                refine v_iload dX2_openPipes_72 rfl ?_
                refine oSNv2 (c_X3_isIn (by omega) (by omega) (by omega)) k0_X3_isIn ki_X3_isIn ml_X2_51 (vRo_of hxR (by decide) (by decide)) dX2_openPipes_74 (Nat.le_of_ble_eq_true rfl) ?_
                have jn86 : ∀ z : Int, z = ((sOpn v st pr s : Nat) : Int) → vO x Q G cX2_openPipes RX2 86 [some (aR (some w)), some (aR (some b)), some (aI (st : Int)), some (aI (bP (pr = true))), some (aI (s : Int)), some (aI ((sMan v s : Nat) : Int)), some (aI z6), c7] [aI z, aI (s : Int), aR (some (w + 1 + 0))] K := by
                  intro z hz
                  subst hz
                  refine o_iast (j := s) (by omega) (wi_a0 hw) (by omega) (by omega) dX2_openPipes_86 ?_
                  refine o_wz hF (by omega) (fun K hF ei ej => ?_)
                  have hLK := fz_layX hF hLX
                  have hXK := hX.keep (fun i h1 h2 => hF.2 i (by omega) (by omega))
                  have ho2 : ∀ t, t < s + 1 → K.1 (w + 1 + 0) t = ((sOpn v st pr t : Nat) : Int) := fun t h => by rw [ej t]; by_cases e : t = s; rw [if_pos e, e]; rw [if_neg e]; exact ho t (by omega)
                  have hn : ∀ m, m < 2 → K.1 (w + 1 + 1) m = sNs v st pr m (24 * s) := fun m hm => by rw [ei _ (by omega)]; exact hn m hm
                  refine v_iconst dX2_openPipes_87 ?_
                  refine v_ist7 dX2_openPipes_88 rfl ?_
                  have lp90 : ∀ (dd2 k : Nat) (K : Mem), k + dd2 = 24 → fz w (w + 7) 1 0 M K → (∀ t, t < s + 1 → K.1 (w + 1 + 0) t = ((sOpn v st pr t : Nat) : Int)) → (∀ m, m < 2 → K.1 (w + 1 + 1) m = sNs v st pr m (24 * s + k)) → vO x Q G cX2_openPipes RX2 90 [some (aR (some w)), some (aR (some b)), some (aI (st : Int)), some (aI (bP (pr = true))), some (aI (s : Int)), some (aI ((sMan v s : Nat) : Int)), some (aI z6), some (aI (k : Int))] [] K := by
                    intro dd2
                    induction dd2 with
                    | zero =>
                      intro k K hd2 hF ho hn
                      obtain rfl : k = 24 := by omega
                      have hLK := fz_layX hF hLX
                      have hXK := hX.keep (fun i h1 h2 => hF.2 i (by omega) (by omega))
                      refine v_iload dX2_openPipes_90 rfl ?_
                      refine v_bipush dX2_openPipes_92 (by decide) ?_
                      refine v_icmp_ge 136 dX2_openPipes_94 (by decide) (by omega) (by decide) (fun h94 => ?_) (fun h94 => ?_)
                      · skip
                        refine v_iinc4 dX2_openPipes_136 rfl ?_
                        refine v_goto 26 dX2_openPipes_139 (by decide) ?_
                        exact ih (s + 1) K _ _ _ (by omega) hF ho hn
                      · skip
                        exact absurd h94 (by omega)
                    | succ dd2 ih2 =>
                      intro k K hd2 hF ho hn
                      have hLK := fz_layX hF hLX
                      have hXK := hX.keep (fun i h1 h2 => hF.2 i (by omega) (by omega))
                      refine v_iload dX2_openPipes_90 rfl ?_
                      refine v_bipush dX2_openPipes_92 (by decide) ?_
                      refine v_icmp_ge 136 dX2_openPipes_94 (by decide) (by omega) (by decide) (fun h94 => ?_) (fun h94 => ?_)
                      · skip
                        exact absurd h94 (by omega)
                      · skip
                        refine v_aload_n 0 dX2_openPipes_97 rfl rfl ?_
                        refine v_getR lk_X2_9 rfl (wi_o hw) (hLK.2.1 w hw 0 (by decide)) dX2_openPipes_98 ?_
                        refine v_iload dX2_openPipes_101 rfl ?_
                        refine o_iald (j := s) (u := ((sOpn v st pr (s) : Nat) : Int)) (wi_a0 hw) (by omega) (by omega) (ho _ (by omega)) dX2_openPipes_103 ?_
                        refine v_iload dX2_openPipes_104 rfl ?_
                        have hol := sOpn_lt hI st pr (show s < 8 by omega)
                        refine oSNv2 (c_X3_isIn (Int.natCast_nonneg _) (by omega) (by omega)) k0_X3_isIn ki_X3_isIn ml_X2_51 (vRo_of hxR (by decide) (by decide)) dX2_openPipes_106 (Nat.le_of_ble_eq_true rfl) ?_
                        refine v_if_eq 130 dX2_openPipes_109 (by decide) (bP_R _) (fun h109 => ?_) (fun h109 => ?_)
                        · skip
                          have g109 : ¬ (sOpn v st pr s).testBit k = true := by simpa [bt] using bP_0.mp h109
                          refine v_iinc7 dX2_openPipes_130 rfl ?_
                          refine v_goto 90 dX2_openPipes_133 (by decide) ?_
                          first | exact ih2 (k + 1) K (by omega) hF ho (fun m hm => by rw [sNs_e (by omega) g109]; exact hn m hm) | exact ih2 (k + 1) K (by omega) hF ho2 hn2
                        · skip
                          have g109 : (sOpn v st pr s).testBit k = true := by simpa [bt] using bP_n0.mp h109
                          refine v_aload_n 0 dX2_openPipes_112 rfl rfl ?_
                          refine v_getR lk_X2_15 rfl (wi_o hw) (hLK.2.1 w hw 1 (by decide)) dX2_openPipes_113 ?_
                          refine v_iload dX2_openPipes_116 rfl ?_
                          refine v_dup2 dX2_openPipes_118 rfl rfl ?_
                          refine o_iald (j := sMan v s) (u := (sNs v st pr (sMan v s) (24 * s + k))) (wi_a1 hw) (by omega) (by omega) (hn _ hmn.1) dX2_openPipes_119 ?_
                          refine v_aload_n 1 dX2_openPipes_120 rfl rfl ?_
                          refine v_iload dX2_openPipes_121 rfl ?_
                          refine v_iload dX2_openPipes_123 rfl ?_
                          refine oVv2 0 (c_X0_need hb hLK hXK hI (by omega) (by omega)) k0_X0_need ki_X0_need ml_X2_78 (st_o hb) (by decide) (vRo_of hxR (by decide) (by decide)) dX2_openPipes_125 (Nat.le_of_ble_eq_true rfl) ?_
                          refine v_iadd dX2_openPipes_128 ?_
                          refine o_iast (j := sMan v s) (by omega) (wi_a1 hw) (by omega) (by omega) dX2_openPipes_129 ?_
                          refine o_wz hF (by omega) (fun K hF ei ej => ?_)
                          have hLK := fz_layX hF hLX
                          have hXK := hX.keep (fun i h1 h2 => hF.2 i (by omega) (by omega))
                          have ho2 : ∀ t, t < s + 1 → K.1 (w + 1 + 0) t = ((sOpn v st pr t : Nat) : Int) := fun t h => by rw [ei _ (by omega)]; exact ho t h
                          have hn2 : ∀ m, m < 2 → K.1 (w + 1 + 1) m = sNs v st pr m (24 * s + (k + 1)) := fun m hm => by rw [ej m, sNs_t (by omega) g109]; by_cases e : m = sMan v s; rw [if_pos e, if_pos e.symm, e]; rw [if_neg e, if_neg (fun q => e q.symm), hn m hm, Int.add_zero]
                          refine v_iinc7 dX2_openPipes_130 rfl ?_
                          refine v_goto 90 dX2_openPipes_133 (by decide) ?_
                          first | exact ih2 (k + 1) K (by omega) hF ho (fun m hm => by rw [sNs_e (by omega) g109]; exact hn m hm) | exact ih2 (k + 1) K (by omega) hF ho2 hn2
                  exact lp90 24 0 K rfl hF ho2 hn
                refine v_if_eq 85 dX2_openPipes_77 (by decide) (bP_R _) (fun h77 => ?_) (fun h77 => ?_)
                · skip
                  refine v_iconst dX2_openPipes_85 ?_
                  first | exact jn86 _ (by rw [sOpn, if_neg (by simpa [bt] using bP_0.mp h77)]; rfl) | exact jn86 _ (by rw [hz6, sOpn, if_pos (by simpa [bt] using bP_n0.mp h77)])
                · skip
                  refine v_iload dX2_openPipes_80 rfl ?_
                  refine v_goto 86 dX2_openPipes_82 (by decide) ?_
                  first | exact jn86 _ (by rw [sOpn, if_neg (by simpa [bt] using bP_0.mp h77)]; rfl) | exact jn86 _ (by rw [hz6, sOpn, if_pos (by simpa [bt] using bP_n0.mp h77)])
              refine v_if_eq 61 dX2_openPipes_49 (by decide) (bP_R _) (fun h49 => ?_) (fun h49 => ?_)
              · skip
                refine v_iconst dX2_openPipes_61 ?_
                first | exact jn62 _ (by rw [show pr = false by simpa using bP_0.mp h49, sAct_f]; rfl) | exact jn62 _ (by rw [bP_n0.mp h49])
              · skip
                refine v_aload_n 1 dX2_openPipes_52 rfl rfl ?_
                refine v_iload dX2_openPipes_53 rfl ?_
                refine oVv1 0 (c_X0_actingKeys hb hLK hXK hI hmn.1) k0_X0_actingKeys ki_X0_actingKeys ml_X2_75 (st_o hb) (by decide) (vRo_of hxR (by decide) (by decide)) dX2_openPipes_55 (Nat.le_of_ble_eq_true rfl) ?_
                refine v_goto 62 dX2_openPipes_58 (by decide) ?_
                first | exact jn62 _ (by rw [show pr = false by simpa using bP_0.mp h49, sAct_f]; rfl) | exact jn62 _ (by rw [bP_n0.mp h49])
        exact lp26 8 0 K _ _ _ rfl hF (fun t h => absurd h (by omega)) hz
      · skip
        exact absurd h6 (by omega)
    | succ dd ih =>
      intro k K hd hF hz
      have hLK := fz_layX hF hLX
      have hXK := hX.keep (fun i h1 h2 => hF.2 i (by omega) (by omega))
      refine v_iload dX2_openPipes_3 rfl ?_
      refine v_iconst dX2_openPipes_5 ?_
      refine v_icmp_ge 23 dX2_openPipes_6 (by decide) (by omega) (by decide) (fun h6 => ?_) (fun h6 => ?_)
      · skip
        exact absurd h6 (by omega)
      · skip
        refine v_aload_n 0 dX2_openPipes_9 rfl rfl ?_
        refine v_getR lk_X2_15 rfl (wi_o hw) (hLK.2.1 w hw 1 (by decide)) dX2_openPipes_10 ?_
        refine v_iload dX2_openPipes_13 rfl ?_
        refine v_iconst dX2_openPipes_15 ?_
        refine o_iast (j := k) (by omega) (wi_a1 hw) (by omega) (by omega) dX2_openPipes_16 ?_
        refine o_wz hF (by omega) (fun K hF ei ej => ?_)
        have hLK := fz_layX hF hLX
        have hXK := hX.keep (fun i h1 h2 => hF.2 i (by omega) (by omega))
        refine v_iinc4 dX2_openPipes_17 rfl ?_
        refine v_goto 3 dX2_openPipes_20 (by decide) ?_
        exact ih (k + 1) K (by omega) hF (fun m h => by rw [ej m]; split; rfl; exact hz m (by omega))
  exact lp3 2 0 M rfl fz_rf (fun m h => absurd h (by omega))
