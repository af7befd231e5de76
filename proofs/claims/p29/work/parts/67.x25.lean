/-! ===== the class: numbers, acts, faults ===== -/
section OX
variable {x : vXX} {Q : State → Prop} {G : vGG} {cc : ByteArray} {own : String} {pc : Nat} {ls : List (Option AV)} {st : List AV} {M0 M : Mem} {p : Nat} {q a f n : Int}
theorem o_xK (hK : xK M0 M p q a f n) (kk : ∀ K : Mem, xK M0 K p q a f n → vO x Q G cc own pc ls st K) : vO x Q G cc own pc ls st M := kk M hK
end OX
def xN (L : Nat → Int) (t p : Nat) (lo hi : Int) (M0 : Mem) (q a f n : Int) (r : Option AV) (M' : Mem) : Prop := ∃ (p' : Nat) (q' z : Int), r = some (aI z) ∧ xK M0 M' p' q' a f n ∧ p' ≤ p + 4 ∧ (q ≠ -1000005 → q' = q) ∧ (q = -1000005 → (¬ pOk L t p lo hi → q' = (p : Int)) ∧ (pOk L t p lo hi → (tH L t (p + pNl L t p) ≠ 59 → q' = ((p + pNl L t p : Nat) : Int)) ∧ (tH L t (p + pNl L t p) = 59 → q' = -1000005 ∧ p' = p + pNl L t p + 1 ∧ z = pNv L t p)))
set_option maxRecDepth 100000 in
set_option maxHeartbeats 1000000 in
theorem c_X1_readNumber {l : Launch} {G : vGG} {M0 M : Mem} {L : Nat → Int} {t p : Nat} {q a f n : Int} (hL0 : LayX M0.2) (hL : ∀ k, k < t → M0.1 25 k = L k) (ht : M0.1 24 1 = (t : Int)) (hB : pLt L t) (hK : xK M0 M p q a f n) (hp : p ≤ 200) {lo hi : Int} (hlo : R32 lo) (hhi : R32 hi) (hq : R32 q) : Co l yX1_readNumber cX1_readNumber 6 (some .int) (rmo 3 64) G [aR (some 24), aI lo, aI hi] M (xN L t p lo hi M0 q a f n) := by
  refine Co.ofV (plainFor_of_name (by decide)) rfl rfl ?_
  intro x hxl hxR hlk hrt Q hQ
  have hLX : LayX M.2 := by rw [hK.1]; exact hL0
  have ht80 := hB.1
  have h1_ : M.1 24 1 = (t : Int) := (hK.2.2.1 1 (by decide)).trans ht
  have h2_ := hK.2.2.2.1
  have hHb := tH_b hB p
  show vO x Q G cX1_readNumber RX1 0 [some (aR (some 24)), some (aI lo), some (aI hi), none, none, none] [] M
  refine v_aload_n 0 dX1_readNumber_0 rfl rfl ?_
  refine o_getI (u := q) lk_X1_27 rfl (rfl : SH 24 = _) hK.2.2.2.2.1 dX1_readNumber_1 ?_
  refine v_ldc (-1000005) kc_X1_26 (by decide) dX1_readNumber_4 ?_
  refine v_icmp_eq 11 dX1_readNumber_6 (by decide) hq (by decide) (fun h6 => ?_) (fun h6 => ?_)
  · skip
    subst h6
    refine v_aload_n 0 dX1_readNumber_11 rfl rfl ?_
    refine o_getI (u := (p : Int)) lk_X1_23 rfl (rfl : SH 24 = _) h2_ dX1_readNumber_12 ?_
    refine v_ist3 dX1_readNumber_15 rfl ?_
    refine v_aload_n 0 dX1_readNumber_16 rfl rfl ?_
    refine v_bipush dX1_readNumber_17 (by decide) ?_
    refine oVq1 1 (c_X1_readDigit (c := 9) hL0 hL ht hB hK (by omega) (by decide)) k0_X1_readDigit ki_X1_readDigit ml_X1_47 (rfl : SH 24 = _) (by decide) (vRo_of hxR (by decide) (by decide)) dX1_readNumber_19 (Nat.le_of_ble_eq_true rfl) (fun N hN => ?_)
    have hK := hN
    refine v_ist4 dX1_readNumber_22 rfl ?_
    refine v_aload_n 0 dX1_readNumber_24 rfl rfl ?_
    refine o_getI (u := (if 0 ≤ tH L t p - 48 ∧ tH L t p - 48 ≤ 9 then (-1000005 : Int) else (p : Int))) lk_X1_27 rfl (rfl : SH 24 = _) hK.2.2.2.2.1 dX1_readNumber_25 ?_
    refine v_ldc (-1000005) kc_X1_26 (by decide) dX1_readNumber_28 ?_
    have jn76 : ∀ (j : Nat) (K : Mem) (c5 : Option AV), tD L t p → pNl L t p = j → xK M0 K (p + j) (-1000005) a f n → vO x Q G cX1_readNumber RX1 76 [some (aR (some 24)), some (aI lo), some (aI hi), some (aI (p : Int)), some (aI (pDg L t p j)), c5] [] K := by
      intro j K c5 g9 e hK
      subst e
      have hnl := (pNl_d g9).1
      have hvb := pNv_b g9
      have hHb3 := tH_b hB (p + pNl L t p)
      show vO x Q G cX1_readNumber RX1 76 [some (aR (some 24)), some (aI lo), some (aI hi), some (aI (p : Int)), some (aI (pNv L t p)), c5] [] K
      have h2_ := hK.2.2.2.1
      have hLX : LayX K.2 := by rw [hK.1]; exact hL0
      refine v_iload dX1_readNumber_76 rfl ?_
      refine v_iload_n 1 dX1_readNumber_78 rfl rfl ?_
      refine v_iload_n 2 dX1_readNumber_79 rfl rfl ?_
      refine oSNv3 (c_X3_isWithin (by omega) hlo hhi) k0_X3_isWithin ki_X3_isWithin ml_X1_19 (vRo_of hxR (by decide) (by decide)) dX1_readNumber_80 (Nat.le_of_ble_eq_true rfl) ?_
      refine v_if_ne 94 dX1_readNumber_83 (by decide) (bP_R _) (fun h83 => ?_) (fun h83 => ?_)
      · skip
        have g83 := bP_n0.mp h83
        refine v_aload_n 0 dX1_readNumber_94 rfl rfl ?_
        refine oVv0 1 (c_X1_letterHere (p := p + pNl L t p) hL0 hL ht hB hK (by omega)) k0_X1_letterHere ki_X1_letterHere ml_X1_40 (rfl : SH 24 = _) (by decide) (vRo_of hxR (by decide) (by decide)) dX1_readNumber_95 (Nat.le_of_ble_eq_true rfl) ?_
        refine v_bipush dX1_readNumber_98 (by decide) ?_
        refine v_icmp_eq 114 dX1_readNumber_100 (by decide) (by omega) (by decide) (fun h100 => ?_) (fun h100 => ?_)
        · skip
          have g100 := h100
          refine v_aload_n 0 dX1_readNumber_114 rfl rfl ?_
          refine v_dup dX1_readNumber_115 rfl ?_
          refine o_getI (u := ((p + pNl L t p : Nat) : Int)) lk_X1_23 rfl (rfl : SH 24 = _) hK.2.2.2.1 dX1_readNumber_116 ?_
          refine v_iconst dX1_readNumber_119 ?_
          refine v_iadd dX1_readNumber_120 ?_
          refine v_putI lp_X1_23 rfl rfl (rfl : SH 24 = _) dX1_readNumber_121 ?_
          refine o_xK (hK.at (p' := p + pNl L t p + 1) rfl) (fun K hK => ?_)
          refine v_iload dX1_readNumber_124 rfl ?_
          refine o_iret hQ hlk hrt dX1_readNumber_126 ?_
          first | exact ⟨_, _, _, rfl, hK, by omega, fun e => absurd rfl e, fun _ => ⟨fun o => absurd ⟨g9, g83⟩ o, fun _ => ⟨fun _ => rfl, fun o => absurd o g100⟩⟩⟩ | exact ⟨_, _, _, rfl, hK, by omega, fun e => absurd rfl e, fun _ => ⟨fun o => absurd ⟨g9, g83⟩ o, fun _ => ⟨fun o => absurd g100 o, fun _ => ⟨rfl, rfl, rfl⟩⟩⟩⟩ | exact ⟨_, _, _, rfl, hK, by omega, fun e => absurd rfl e, fun _ => ⟨fun _ => rfl, fun o => absurd o.2 g83⟩⟩
        · skip
          have g100 := h100
          refine v_aload_n 0 dX1_readNumber_103 rfl rfl ?_
          refine v_aload_n 0 dX1_readNumber_104 rfl rfl ?_
          refine o_getI (u := ((p + pNl L t p : Nat) : Int)) lk_X1_23 rfl (rfl : SH 24 = _) hK.2.2.2.1 dX1_readNumber_105 ?_
          refine v_putI lp_X1_27 rfl rfl (rfl : SH 24 = _) dX1_readNumber_108 ?_
          refine o_xK (hK.fa _) (fun K hK => ?_)
          refine v_goto 124 dX1_readNumber_111 (by decide) ?_
          refine v_iload dX1_readNumber_124 rfl ?_
          refine o_iret hQ hlk hrt dX1_readNumber_126 ?_
          first | exact ⟨_, _, _, rfl, hK, by omega, fun e => absurd rfl e, fun _ => ⟨fun o => absurd ⟨g9, g83⟩ o, fun _ => ⟨fun _ => rfl, fun o => absurd o g100⟩⟩⟩ | exact ⟨_, _, _, rfl, hK, by omega, fun e => absurd rfl e, fun _ => ⟨fun o => absurd ⟨g9, g83⟩ o, fun _ => ⟨fun o => absurd g100 o, fun _ => ⟨rfl, rfl, rfl⟩⟩⟩⟩ | exact ⟨_, _, _, rfl, hK, by omega, fun e => absurd rfl e, fun _ => ⟨fun _ => rfl, fun o => absurd o.2 g83⟩⟩
      · skip
        have g83 := bP_0.mp h83
        refine v_aload_n 0 dX1_readNumber_86 rfl rfl ?_
        refine v_iload_n 3 dX1_readNumber_87 rfl rfl ?_
        refine v_putI lp_X1_27 rfl rfl (rfl : SH 24 = _) dX1_readNumber_88 ?_
        refine o_xK (hK.fa _) (fun K hK => ?_)
        refine v_goto 124 dX1_readNumber_91 (by decide) ?_
        refine v_iload dX1_readNumber_124 rfl ?_
        refine o_iret hQ hlk hrt dX1_readNumber_126 ?_
        first | exact ⟨_, _, _, rfl, hK, by omega, fun e => absurd rfl e, fun _ => ⟨fun o => absurd ⟨g9, g83⟩ o, fun _ => ⟨fun _ => rfl, fun o => absurd o g100⟩⟩⟩ | exact ⟨_, _, _, rfl, hK, by omega, fun e => absurd rfl e, fun _ => ⟨fun o => absurd ⟨g9, g83⟩ o, fun _ => ⟨fun o => absurd g100 o, fun _ => ⟨rfl, rfl, rfl⟩⟩⟩⟩ | exact ⟨_, _, _, rfl, hK, by omega, fun e => absurd rfl e, fun _ => ⟨fun _ => rfl, fun o => absurd o.2 g83⟩⟩
    refine v_icmp_eq 35 dX1_readNumber_30 (by decide) (by split <;> omega) (by decide) (fun h30 => ?_) (fun h30 => ?_)
    · skip
      have g : 0 ≤ tH L t p - 48 ∧ tH L t p - 48 ≤ 9 := by
        by_cases g : 0 ≤ tH L t p - 48 ∧ tH L t p - 48 ≤ 9
        · exact g
        · rw [if_neg g] at h30; omega
      have g9 : tD L t p := by unfold tD; omega
      rw [if_pos g, if_pos g] at hK
      rw [if_pos g]
      have hv1 : (tH L t p - 48 : Int) = pDg L t p 1 := by rw [pDg, pDg, Nat.add_zero]; omega
      rw [hv1]
      refine v_iconst dX1_readNumber_35 ?_
      refine v_ist5 dX1_readNumber_36 rfl ?_
      have lp38 : ∀ (dd j : Nat) (K : Mem), j + dd = 3 → 1 ≤ j → xK M0 K (p + j) (-1000005) a f n → (∀ i, i < j → tD L t (p + i)) → ((pDg L t p j = 0 ∧ pNl L t p = j) ∨ (1 ≤ pDg L t p j ∧ pNx L t p dd j = pNl L t p)) → vO x Q G cX1_readNumber RX1 38 [some (aR (some 24)), some (aI lo), some (aI hi), some (aI (p : Int)), some (aI (pDg L t p j)), some (aI (j : Int))] [] K := by
        intro dd
        induction dd with
        | zero =>
          intro j K hd hj hK hiD he
          have hdb := pDg_b (L := L) (t := t) (p := p) j hiD
          obtain rfl : j = 3 := by omega
          have e : pNl L t p = 3 := by
            rcases he with ⟨_, e⟩ | ⟨_, e⟩
            · exact e
            · exact e.symm
          refine v_iload dX1_readNumber_38 rfl ?_
          refine v_iconst dX1_readNumber_40 ?_
          refine v_icmp_ge 76 dX1_readNumber_41 (by decide) (by omega) (by decide) (fun h41 => ?_) (fun h41 => ?_)
          · skip
            exact jn76 _ _ _ g9 e hK
          · skip
            exact absurd h41 (by decide)
        | succ dd ih =>
          intro j K hd hj hK hiD he
          have hdb := pDg_b (L := L) (t := t) (p := p) j hiD
          have hpw : (10 : Int) ^ j ≤ 100 := by rcases (show j = 1 ∨ j = 2 by omega) with rfl | rfl <;> decide
          refine v_iload dX1_readNumber_38 rfl ?_
          refine v_iconst dX1_readNumber_40 ?_
          refine v_icmp_ge 76 dX1_readNumber_41 (by decide) (by omega) (by decide) (fun h41 => ?_) (fun h41 => ?_)
          · skip
            exact absurd h41 (by omega)
          · skip
            refine v_iload dX1_readNumber_44 rfl ?_
            refine v_if_eq 76 dX1_readNumber_46 (by decide) (by have := hdb.1; have := hdb.2; omega) (fun h46 => ?_) (fun h46 => ?_)
            · skip
              have e : pNl L t p = j := by
                rcases he with ⟨_, e⟩ | ⟨o, _⟩
                · exact e
                · omega
              exact jn76 _ _ _ g9 e hK
            · skip
              have he2 : pNx L t p (dd + 1) j = pNl L t p := by
                rcases he with ⟨o, _⟩ | ⟨_, e⟩
                · exact absurd o h46
                · exact e
              refine v_aload_n 0 dX1_readNumber_49 rfl rfl ?_
              refine oVv0 1 (c_X1_isDigitHere hL0 hL ht hB hK (by omega)) k0_X1_isDigitHere ki_X1_isDigitHere ml_X1_61 (rfl : SH 24 = _) (by decide) (vRo_of hxR (by decide) (by decide)) dX1_readNumber_50 (Nat.le_of_ble_eq_true rfl) ?_
              refine v_if_eq 76 dX1_readNumber_53 (by decide) (bP_R _) (fun h53 => ?_) (fun h53 => ?_)
              · skip
                have g53 := bP_0.mp h53
                have e : pNl L t p = j := by rw [← he2, pNx, if_neg g53]
                exact jn76 _ _ _ g9 e hK
              · skip
                have g53 := bP_n0.mp h53
                have gd : 0 ≤ tH L t (p + j) - 48 ∧ tH L t (p + j) - 48 ≤ 9 := by have := g53.1; have := g53.2; omega
                refine v_bipush dX1_readNumber_56 (by decide) ?_
                refine v_iload dX1_readNumber_58 rfl ?_
                refine v_imul dX1_readNumber_60 ?_
                refine v_aload_n 0 dX1_readNumber_61 rfl rfl ?_
                refine v_bipush dX1_readNumber_62 (by decide) ?_
                refine oVq1 1 (c_X1_readDigit (c := 9) hL0 hL ht hB hK (by omega) (by decide)) k0_X1_readDigit ki_X1_readDigit ml_X1_47 (rfl : SH 24 = _) (by decide) (vRo_of hxR (by decide) (by decide)) dX1_readNumber_64 (Nat.le_of_ble_eq_true rfl) (fun N hN => ?_)
                have hK := hN
                rw [if_pos gd, if_pos gd] at hK
                rw [if_pos gd]
                refine v_iadd dX1_readNumber_67 ?_
                refine v_ist4 dX1_readNumber_68 rfl ?_
                refine v_iinc5 dX1_readNumber_70 rfl ?_
                refine v_goto 38 dX1_readNumber_73 (by decide) ?_
                exact ih (j + 1) _ (by omega) (by omega) hK (fun i h => by
                  by_cases e : i = j
                  · rw [e]; exact g53
                  · exact hiD i (by omega)) (.inr ⟨by rw [pDg]; omega, by rw [← he2, pNx, if_pos g53]⟩)
      exact lp38 2 1 _ rfl (Nat.le_refl _) hK (fun i h => by rw [show i = 0 by omega]; exact g9) (by
        rw [pDg, pDg]
        by_cases e : tH L t p = 48
        · exact .inl ⟨by rw [Nat.add_zero, e]; decide, by rw [pNl, if_pos g9, if_pos e]⟩
        · exact .inr ⟨by rw [Nat.add_zero]; have := g9.1; omega, by rw [pNl, if_pos g9, if_neg e]⟩)
    · skip
      have g : ¬ (0 ≤ tH L t p - 48 ∧ tH L t p - 48 ≤ 9) := fun g => h30 (if_pos g)
      have g9 : ¬ tD L t p := by unfold tD; omega
      rw [if_neg g, if_neg g] at hK
      refine v_iconst dX1_readNumber_33 ?_
      refine o_iret hQ hlk hrt dX1_readNumber_34 ?_
      exact ⟨p, (p : Int), 0, rfl, hK, by omega, fun e => absurd rfl e, fun _ => ⟨fun _ => rfl, fun o => absurd o.1 g9⟩⟩
  · skip
    refine v_iconst dX1_readNumber_9 ?_
    refine o_iret hQ hlk hrt dX1_readNumber_10 ?_
    first | exact ⟨p, q, 0, rfl, hK, by omega, fun _ => rfl, fun e => absurd e h6⟩ | exact ⟨p, (p : Int), 0, rfl, hK, by omega, fun e => absurd rfl e, fun _ => ⟨fun _ => rfl, fun o => absurd o.1 g9⟩⟩
