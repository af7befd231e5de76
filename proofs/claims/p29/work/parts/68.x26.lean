/-! ===== the class: an act ===== -/
def xA (L : Nat → Int) (t p : Nat) (M0 M' : Mem) : Prop := ∃ (p' : Nat) (q' f n : Int), xK M0 M' p' q' (tH L t p) f n ∧ p' ≤ p + 6 ∧ ((pA L t p).1 = true → q' = -1000005 ∧ p' = (pA L t p).2 ∧ (tH L t p ≠ 116 → f = tH L t (p + 1) - 48) ∧ (tH L t p = 112 ∨ tH L t p = 108 → n = pNv L t (p + 2)) ∧ (tH L t p = 116 → n = pNv L t (p + 1))) ∧ (¬ (pA L t p).1 = true → q' = (((pA L t p).2 : Nat) : Int))
theorem xA.ok {L : Nat → Int} {t p p' : Nat} {M0 M' : Mem} {f n : Int} (e : pA L t p = (true, p')) (hK : xK M0 M' p' (-1000005) (tH L t p) f n) (h : (tH L t p ≠ 116 → f = tH L t (p + 1) - 48) ∧ (tH L t p = 112 ∨ tH L t p = 108 → n = pNv L t (p + 2)) ∧ (tH L t p = 116 → n = pNv L t (p + 1))) : xA L t p M0 M' := by
  have hb := (pA_b L t p).1
  rw [e] at hb
  exact ⟨p', _, f, n, hK, hb, fun _ => ⟨rfl, by rw [e], h⟩, fun q => absurd (by rw [e]) q⟩
theorem xA.no {L : Nat → Int} {t p p' s : Nat} {M0 M' : Mem} {f n : Int} (e : pA L t p = (false, s)) (hK : xK M0 M' p' ((s : Nat) : Int) (tH L t p) f n) (hp : p' ≤ p + 6) : xA L t p M0 M' :=
  ⟨p', _, f, n, hK, hp, fun q => (by rw [e] at q; cases q), fun _ => by rw [e]⟩
set_option maxRecDepth 100000 in
set_option maxHeartbeats 1000000 in
theorem c_X1_readAct {l : Launch} {G : vGG} {M0 M : Mem} {L : Nat → Int} {t p : Nat} {a f n : Int} (hL0 : LayX M0.2) (hL : ∀ k, k < t → M0.1 25 k = L k) (ht : M0.1 24 1 = (t : Int)) (hB : pLt L t) (hK : xK M0 M p (-1000005) a f n) (hp : p ≤ 100) : Co l yX1_readAct cX1_readAct 1 none (rmo 4 89) G [aR (some 24)] M (fun r M' => r = none ∧ xA L t p M0 M') := by
  refine Co.ofV (plainFor_of_name (by decide)) rfl rfl ?_
  intro x hxl hxR hlk hrt Q hQ
  have hLX : LayX M.2 := by rw [hK.1]; exact hL0
  have ht80 := hB.1
  have h1_ : M.1 24 1 = (t : Int) := (hK.2.2.1 1 (by decide)).trans ht
  have h2_ := hK.2.2.2.1
  have hHb := tH_b hB p
  show vO x Q G cX1_readAct RX1 0 [some (aR (some 24))] [] M
  refine v_aload_n 0 dX1_readAct_0 rfl rfl ?_
  refine v_aload_n 0 dX1_readAct_1 rfl rfl ?_
  refine oVv0 1 (c_X1_letterHere hL0 hL ht hB hK (by omega)) k0_X1_letterHere ki_X1_letterHere ml_X1_40 (rfl : SH 24 = _) (by decide) (vRo_of hxR (by decide) (by decide)) dX1_readAct_2 (Nat.le_of_ble_eq_true rfl) ?_
  refine v_putI lp_X1_44 rfl rfl (rfl : SH 24 = _) dX1_readAct_5 ?_
  refine o_xK (hK.ki (tH L t p)) (fun K hK => ?_)
  refine v_aload_n 0 dX1_readAct_8 rfl rfl ?_
  refine o_getI (u := (tH L t p)) lk_X1_44 rfl (rfl : SH 24 = _) hK.2.2.2.2.2.1 dX1_readAct_9 ?_
  rcases (show tH L t p = 100 ∨ tH L t p = 108 ∨ tH L t p = 112 ∨ tH L t p = 114 ∨ tH L t p = 116 ∨ (¬ tH L t p = 100 ∧ ¬ tH L t p = 108 ∧ ¬ tH L t p = 112 ∧ ¬ tH L t p = 114 ∧ ¬ tH L t p = 116) by omega) with hc | hc | hc | hc | hc | hc
  · skip
    refine o_eqI (u := 100) hc ?_
    refine v_lookup 64 dX1_readAct_12 (by decide) (by decide) rfl (by decide) ?_
    refine v_aload_n 0 dX1_readAct_64 rfl rfl ?_
    refine v_dup dX1_readAct_65 rfl ?_
    refine o_getI (u := (p : Int)) lk_X1_23 rfl (rfl : SH 24 = _) hK.2.2.2.1 dX1_readAct_66 ?_
    refine v_iconst dX1_readAct_69 ?_
    refine v_iadd dX1_readAct_70 ?_
    refine v_putI lp_X1_23 rfl rfl (rfl : SH 24 = _) dX1_readAct_71 ?_
    refine o_xK (hK.at (p' := p + 1) rfl) (fun K hK => ?_)
    refine v_aload_n 0 dX1_readAct_74 rfl rfl ?_
    refine v_aload_n 0 dX1_readAct_75 rfl rfl ?_
    refine v_bipush dX1_readAct_76 (by decide) ?_
    refine oVq1 1 (c_X1_readDigit (p := p + 1) (c := 7) hL0 hL ht hB hK (by omega) (by decide)) k0_X1_readDigit ki_X1_readDigit ml_X1_47 (rfl : SH 24 = _) (by decide) (vRo_of hxR (by decide) (by decide)) dX1_readAct_78 (Nat.le_of_ble_eq_true rfl) (fun N hN => ?_)
    have hK := hN
    refine v_putI lp_X1_51 rfl rfl (rfl : SH 24 = _) dX1_readAct_81 ?_
    refine o_xK (hK.pl _) (fun K hK => ?_)
    refine v_goto 153 dX1_readAct_84 (by decide) ?_
    refine o_ret hQ hlk hrt dX1_readAct_153 ?_
    by_cases g : 0 ≤ tH L t (p + 1) - 48 ∧ tH L t (p + 1) - 48 ≤ 7
    · rw [if_pos g, if_pos g, if_pos g] at hK
      exact ⟨rfl, xA.ok (by rw [pA_dr (by omega), decide_eq_true g, if_pos g]) hK ⟨fun _ => rfl, fun q => absurd q (by omega), fun q => absurd q (by omega)⟩⟩
    · rw [if_neg g, if_neg g, if_neg g] at hK
      exact ⟨rfl, xA.no (by rw [pA_dr (by omega), decide_eq_false g, if_neg g]) hK (by omega)⟩
  · skip
    refine o_eqI (u := 108) hc ?_
    refine v_lookup 87 dX1_readAct_12 (by decide) (by decide) rfl (by decide) ?_
    refine v_aload_n 0 dX1_readAct_87 rfl rfl ?_
    refine v_dup dX1_readAct_88 rfl ?_
    refine o_getI (u := (p : Int)) lk_X1_23 rfl (rfl : SH 24 = _) hK.2.2.2.1 dX1_readAct_89 ?_
    refine v_iconst dX1_readAct_92 ?_
    refine v_iadd dX1_readAct_93 ?_
    refine v_putI lp_X1_23 rfl rfl (rfl : SH 24 = _) dX1_readAct_94 ?_
    refine o_xK (hK.at (p' := p + 1) rfl) (fun K hK => ?_)
    refine v_aload_n 0 dX1_readAct_97 rfl rfl ?_
    refine v_aload_n 0 dX1_readAct_98 rfl rfl ?_
    refine v_iconst dX1_readAct_99 ?_
    refine oVq1 1 (c_X1_readDigit (p := p + 1) (c := 1) hL0 hL ht hB hK (by omega) (by decide)) k0_X1_readDigit ki_X1_readDigit ml_X1_47 (rfl : SH 24 = _) (by decide) (vRo_of hxR (by decide) (by decide)) dX1_readAct_100 (Nat.le_of_ble_eq_true rfl) (fun N hN => ?_)
    have hK := hN
    refine v_putI lp_X1_51 rfl rfl (rfl : SH 24 = _) dX1_readAct_103 ?_
    refine o_xK (hK.pl _) (fun K hK => ?_)
    refine v_aload_n 0 dX1_readAct_106 rfl rfl ?_
    refine v_aload_n 0 dX1_readAct_107 rfl rfl ?_
    refine v_iconst dX1_readAct_108 ?_
    refine v_bipush dX1_readAct_109 (by decide) ?_
    refine oVp2 1 (c_X1_readNumber (lo := 0) (hi := 23) hL0 hL ht hB hK (by first | omega | (split <;> omega)) (by decide) (by decide) (by first | decide | (split <;> omega))) k0_X1_readNumber ki_X1_readNumber ml_X1_54 (rfl : SH 24 = _) (by decide) (vRo_of hxR (by decide) (by decide)) dX1_readAct_111 (Nat.le_of_ble_eq_true rfl) (fun r0 N hN => ?_)
    obtain ⟨p', q', z, rfl, hK, hp', hq1, hq2⟩ := hN
    show vO x Q G cX1_readAct RX1 114 [some (aR (some 24))] [aI z, aR (some 24)] N
    refine v_putI lp_X1_58 rfl rfl (rfl : SH 24 = _) dX1_readAct_114 ?_
    refine o_xK (hK.nu z) (fun K hK => ?_)
    refine v_goto 153 dX1_readAct_117 (by decide) ?_
    refine o_ret hQ hlk hrt dX1_readAct_153 ?_
    by_cases g : 0 ≤ tH L t (p + 1) - 48 ∧ tH L t (p + 1) - 48 ≤ 1
    · simp only [if_pos g] at hp' hq1 hq2 hK
      have hz := hq2 trivial
      by_cases o : pOk L t (p + 2) 0 23
      · have hz2 := hz.2 o
        by_cases e : tH L t (p + 2 + pNl L t (p + 2)) = 59
        · obtain ⟨rfl, rfl, rfl⟩ := hz2.2 e
          exact ⟨rfl, xA.ok (pA_p4 (by omega) g o e) hK ⟨fun _ => rfl, fun _ => rfl, fun q => absurd q (by omega)⟩⟩
        · obtain rfl := hz2.1 e
          exact ⟨rfl, xA.no (pA_p3 (by omega) g o e) hK (by omega)⟩
      · obtain rfl := hz.1 o
        exact ⟨rfl, xA.no (pA_p2 (by omega) g o) hK (by omega)⟩
    · simp only [if_neg g] at hp' hq1 hq2 hK
      obtain rfl := hq1 (by omega)
      exact ⟨rfl, xA.no (pA_p1 (by omega) g) hK (by omega)⟩
  · skip
    refine o_eqI (u := 112) hc ?_
    refine v_lookup 87 dX1_readAct_12 (by decide) (by decide) rfl (by decide) ?_
    refine v_aload_n 0 dX1_readAct_87 rfl rfl ?_
    refine v_dup dX1_readAct_88 rfl ?_
    refine o_getI (u := (p : Int)) lk_X1_23 rfl (rfl : SH 24 = _) hK.2.2.2.1 dX1_readAct_89 ?_
    refine v_iconst dX1_readAct_92 ?_
    refine v_iadd dX1_readAct_93 ?_
    refine v_putI lp_X1_23 rfl rfl (rfl : SH 24 = _) dX1_readAct_94 ?_
    refine o_xK (hK.at (p' := p + 1) rfl) (fun K hK => ?_)
    refine v_aload_n 0 dX1_readAct_97 rfl rfl ?_
    refine v_aload_n 0 dX1_readAct_98 rfl rfl ?_
    refine v_iconst dX1_readAct_99 ?_
    refine oVq1 1 (c_X1_readDigit (p := p + 1) (c := 1) hL0 hL ht hB hK (by omega) (by decide)) k0_X1_readDigit ki_X1_readDigit ml_X1_47 (rfl : SH 24 = _) (by decide) (vRo_of hxR (by decide) (by decide)) dX1_readAct_100 (Nat.le_of_ble_eq_true rfl) (fun N hN => ?_)
    have hK := hN
    refine v_putI lp_X1_51 rfl rfl (rfl : SH 24 = _) dX1_readAct_103 ?_
    refine o_xK (hK.pl _) (fun K hK => ?_)
    refine v_aload_n 0 dX1_readAct_106 rfl rfl ?_
    refine v_aload_n 0 dX1_readAct_107 rfl rfl ?_
    refine v_iconst dX1_readAct_108 ?_
    refine v_bipush dX1_readAct_109 (by decide) ?_
    refine oVp2 1 (c_X1_readNumber (lo := 0) (hi := 23) hL0 hL ht hB hK (by first | omega | (split <;> omega)) (by decide) (by decide) (by first | decide | (split <;> omega))) k0_X1_readNumber ki_X1_readNumber ml_X1_54 (rfl : SH 24 = _) (by decide) (vRo_of hxR (by decide) (by decide)) dX1_readAct_111 (Nat.le_of_ble_eq_true rfl) (fun r0 N hN => ?_)
    obtain ⟨p', q', z, rfl, hK, hp', hq1, hq2⟩ := hN
    show vO x Q G cX1_readAct RX1 114 [some (aR (some 24))] [aI z, aR (some 24)] N
    refine v_putI lp_X1_58 rfl rfl (rfl : SH 24 = _) dX1_readAct_114 ?_
    refine o_xK (hK.nu z) (fun K hK => ?_)
    refine v_goto 153 dX1_readAct_117 (by decide) ?_
    refine o_ret hQ hlk hrt dX1_readAct_153 ?_
    by_cases g : 0 ≤ tH L t (p + 1) - 48 ∧ tH L t (p + 1) - 48 ≤ 1
    · simp only [if_pos g] at hp' hq1 hq2 hK
      have hz := hq2 trivial
      by_cases o : pOk L t (p + 2) 0 23
      · have hz2 := hz.2 o
        by_cases e : tH L t (p + 2 + pNl L t (p + 2)) = 59
        · obtain ⟨rfl, rfl, rfl⟩ := hz2.2 e
          exact ⟨rfl, xA.ok (pA_p4 (by omega) g o e) hK ⟨fun _ => rfl, fun _ => rfl, fun q => absurd q (by omega)⟩⟩
        · obtain rfl := hz2.1 e
          exact ⟨rfl, xA.no (pA_p3 (by omega) g o e) hK (by omega)⟩
      · obtain rfl := hz.1 o
        exact ⟨rfl, xA.no (pA_p2 (by omega) g o) hK (by omega)⟩
    · simp only [if_neg g] at hp' hq1 hq2 hK
      obtain rfl := hq1 (by omega)
      exact ⟨rfl, xA.no (pA_p1 (by omega) g) hK (by omega)⟩
  · skip
    refine o_eqI (u := 114) hc ?_
    refine v_lookup 64 dX1_readAct_12 (by decide) (by decide) rfl (by decide) ?_
    refine v_aload_n 0 dX1_readAct_64 rfl rfl ?_
    refine v_dup dX1_readAct_65 rfl ?_
    refine o_getI (u := (p : Int)) lk_X1_23 rfl (rfl : SH 24 = _) hK.2.2.2.1 dX1_readAct_66 ?_
    refine v_iconst dX1_readAct_69 ?_
    refine v_iadd dX1_readAct_70 ?_
    refine v_putI lp_X1_23 rfl rfl (rfl : SH 24 = _) dX1_readAct_71 ?_
    refine o_xK (hK.at (p' := p + 1) rfl) (fun K hK => ?_)
    refine v_aload_n 0 dX1_readAct_74 rfl rfl ?_
    refine v_aload_n 0 dX1_readAct_75 rfl rfl ?_
    refine v_bipush dX1_readAct_76 (by decide) ?_
    refine oVq1 1 (c_X1_readDigit (p := p + 1) (c := 7) hL0 hL ht hB hK (by omega) (by decide)) k0_X1_readDigit ki_X1_readDigit ml_X1_47 (rfl : SH 24 = _) (by decide) (vRo_of hxR (by decide) (by decide)) dX1_readAct_78 (Nat.le_of_ble_eq_true rfl) (fun N hN => ?_)
    have hK := hN
    refine v_putI lp_X1_51 rfl rfl (rfl : SH 24 = _) dX1_readAct_81 ?_
    refine o_xK (hK.pl _) (fun K hK => ?_)
    refine v_goto 153 dX1_readAct_84 (by decide) ?_
    refine o_ret hQ hlk hrt dX1_readAct_153 ?_
    by_cases g : 0 ≤ tH L t (p + 1) - 48 ∧ tH L t (p + 1) - 48 ≤ 7
    · rw [if_pos g, if_pos g, if_pos g] at hK
      exact ⟨rfl, xA.ok (by rw [pA_dr (by omega), decide_eq_true g, if_pos g]) hK ⟨fun _ => rfl, fun q => absurd q (by omega), fun q => absurd q (by omega)⟩⟩
    · rw [if_neg g, if_neg g, if_neg g] at hK
      exact ⟨rfl, xA.no (by rw [pA_dr (by omega), decide_eq_false g, if_neg g]) hK (by omega)⟩
  · skip
    refine o_eqI (u := 116) hc ?_
    refine v_lookup 120 dX1_readAct_12 (by decide) (by decide) rfl (by decide) ?_
    refine v_aload_n 0 dX1_readAct_120 rfl rfl ?_
    refine v_dup dX1_readAct_121 rfl ?_
    refine o_getI (u := (p : Int)) lk_X1_23 rfl (rfl : SH 24 = _) hK.2.2.2.1 dX1_readAct_122 ?_
    refine v_iconst dX1_readAct_125 ?_
    refine v_iadd dX1_readAct_126 ?_
    refine v_putI lp_X1_23 rfl rfl (rfl : SH 24 = _) dX1_readAct_127 ?_
    refine o_xK (hK.at (p' := p + 1) rfl) (fun K hK => ?_)
    refine v_aload_n 0 dX1_readAct_130 rfl rfl ?_
    refine v_aload_n 0 dX1_readAct_131 rfl rfl ?_
    refine v_iconst dX1_readAct_132 ?_
    refine v_sipush dX1_readAct_133 (by decide) ?_
    refine oVp2 1 (c_X1_readNumber (lo := 1) (hi := 200) hL0 hL ht hB hK (by first | omega | (split <;> omega)) (by decide) (by decide) (by first | decide | (split <;> omega))) k0_X1_readNumber ki_X1_readNumber ml_X1_54 (rfl : SH 24 = _) (by decide) (vRo_of hxR (by decide) (by decide)) dX1_readAct_136 (Nat.le_of_ble_eq_true rfl) (fun r0 N hN => ?_)
    obtain ⟨p', q', z, rfl, hK, hp', hq1, hq2⟩ := hN
    show vO x Q G cX1_readAct RX1 139 [some (aR (some 24))] [aI z, aR (some 24)] N
    refine v_putI lp_X1_58 rfl rfl (rfl : SH 24 = _) dX1_readAct_139 ?_
    refine o_xK (hK.nu z) (fun K hK => ?_)
    refine v_goto 153 dX1_readAct_142 (by decide) ?_
    refine o_ret hQ hlk hrt dX1_readAct_153 ?_
    have hz := hq2 rfl
    by_cases o : pOk L t (p + 1) 1 200
    · have hz2 := hz.2 o
      by_cases e : tH L t (p + 1 + pNl L t (p + 1)) = 59
      · obtain ⟨rfl, rfl, rfl⟩ := hz2.2 e
        exact ⟨rfl, xA.ok (pA_t4 hc o e) hK ⟨fun q => absurd hc q, fun q => absurd q (by omega), fun _ => rfl⟩⟩
      · obtain rfl := hz2.1 e
        exact ⟨rfl, xA.no (pA_t3 hc o e) hK (by omega)⟩
    · obtain rfl := hz.1 o
      exact ⟨rfl, xA.no (pA_t2 hc o) hK (by omega)⟩
  · skip
    refine v_lookup 145 dX1_readAct_12 (by decide) (by omega) (show Op.lookupswitch.offset [(100, 52), (108, 75), (112, 75), (114, 52), (116, 108)] 133 (tH L t p) = 133 from by rw [Op.lookupswitch.offset_cons, if_neg (by omega), Op.lookupswitch.offset_cons, if_neg (by omega), Op.lookupswitch.offset_cons, if_neg (by omega), Op.lookupswitch.offset_cons, if_neg (by omega), Op.lookupswitch.offset_cons, if_neg (by omega), Op.lookupswitch.offset_nil]) (by decide) ?_
    refine v_aload_n 0 dX1_readAct_145 rfl rfl ?_
    refine v_aload_n 0 dX1_readAct_146 rfl rfl ?_
    refine o_getI (u := (p : Int)) lk_X1_23 rfl (rfl : SH 24 = _) hK.2.2.2.1 dX1_readAct_147 ?_
    refine v_putI lp_X1_27 rfl rfl (rfl : SH 24 = _) dX1_readAct_150 ?_
    refine o_xK (hK.fa (p : Int)) (fun K hK => ?_)
    refine o_ret hQ hlk hrt dX1_readAct_153 ?_
    exact ⟨rfl, xA.no (pA_0 hc.1 hc.2.2.2.1 hc.2.2.1 hc.2.1 hc.2.2.2.2) hK (by omega)⟩
