/-! ===== the class: play ===== -/
theorem xK.rf {M : Mem} {p : Nat} {q : Int} (h : M.1 24 2 = (p : Int)) (h3 : M.1 24 3 = q) : xK M M p q (M.1 24 4) (M.1 24 5) (M.1 24 6) := ⟨rfl, fun _ _ => rfl, fun _ _ => rfl, h, h3, rfl, rfl, rfl⟩
/-- where a play of the class stands -/
def xJ (M0 K : Mem) (p : Nat) : Prop := K.2 = M0.2 ∧ (∀ i, i ≠ 24 → (i < 1 ∨ 11 ≤ i) → (i < 33 ∨ 40 ≤ i) → K.1 i = M0.1 i) ∧ (∀ k, k < 2 → K.1 24 k = M0.1 24 k) ∧ K.1 24 2 = (p : Int) ∧ K.1 24 3 = -1000005
theorem xJ.step {M0 K N N' : Mem} {p p' : Nat} {a f n : Int} (h : xJ M0 K p) (h1 : xK K N p' (-1000005) a f n) (h2 : fz 1 11 33 40 N N') : xJ M0 N' p' := by
  obtain ⟨e1, e2, e3, -, -⟩ := h
  have e24 : N'.1 24 = N.1 24 := h2.2 24 (by decide) (by decide)
  refine ⟨h2.1.trans (h1.1.trans e1), fun i hi ha hb => ?_, fun k hk => ?_, ?_, ?_⟩
  · rw [h2.2 i ha hb, h1.2.1 i hi, e2 i hi ha hb]
  · rw [e24, h1.2.2.1 k hk, e3 k hk]
  · rw [e24]; exact h1.2.2.2.1
  · rw [e24]; exact h1.2.2.2.2.1
def xPlay (r : Nat) (h : Nat → Nat) (v : Sg) (L : Nat → Int) (t : Nat) (M : Mem) (r0 : Option AV) (M' : Mem) : Prop :=
  ((pT L t 80 0).1 = true ∧ r0 = some (aI (((pPl L t 80 0 v).2 : Nat) : Int)) ∧ ∃ N1 N2 : Mem, (∃ (p : Nat) (q a f n : Int), xK M N1 p q a f n) ∧ xRec r h v N1 N2 ∧ (∃ p : Nat, xJ N2 M' p) ∧ XS 1 (pPl L t 80 0 v).1 M'.1) ∨
  (¬ (pT L t 80 0).1 = true ∧ r0 = some (aI (-1000003)) ∧ ∃ (p : Nat) (q a f n : Int), xK M M' p q a f n)
theorem aFault_1 {L : Nat → Int} {t : Nat} (h : aFault L t = -1000005) : (pT L t 80 0).1 = true := by
  unfold aFault at h
  by_cases g : (pT L t 80 0).1 = true
  · exact g
  · rw [if_neg g] at h
    omega
theorem aFault_0 {L : Nat → Int} {t : Nat} (h : ¬ aFault L t = -1000005) : ¬ (pT L t 80 0).1 = true := fun g => h (if_pos g)
set_option maxRecDepth 100000 in
set_option maxHeartbeats 1000000 in
theorem c_X3_play {l : Launch} {G : vGG} {M : Mem} {v : Sg} (hLX : LayX M.2) (hX : XS 1 v M.1) (hI : sInv v) {r : Nat} {h : Nat → Nat} (hr : M.1 0 8 = (r : Int)) (hr5 : r ≤ 5) (hh : ∀ k, k < 5 → M.2 21 k = some (h k)) (hB5 : ∀ k, k < 5 → stB (h k) ∧ 40 ≤ h k ∧ h k ≤ 80) {L : Nat → Int} {t : Nat} (hL : ∀ k, k < t → M.1 25 k = L k) (ht : M.1 24 1 = (t : Int)) (hB : pLt L t) : Co l yX3_play cX3_play 2 (some .int) (rmo 6 136) G [aR (some 0)] M (xPlay r h v L t M) := by
  refine Co.ofV (plainFor_of_name (by decide)) rfl rfl ?_
  intro x hxl hxR hlk hrt Q hQ
  show vO x Q G cX3_play RX3 0 [some (aR (some 0)), none] [] M
  refine v_aload_n 0 dX3_play_0 rfl rfl ?_
  refine v_getR lk_X3_33 rfl (rfl : SH 0 = _) (ow_5 hLX) dX3_play_1 ?_
  refine oVq0 1 (c_X1_findFault hLX hL ht hB) k0_X1_findFault ki_X1_findFault ml_X3_144 (rfl : SH 24 = _) (by decide) (vRo_of hxR (by decide) (by decide)) dX3_play_4 (Nat.le_of_ble_eq_true rfl) (fun N hN => ?_)
  obtain ⟨p0, q0, a0, f0, n0, hK⟩ := hN
  have hL1 : LayX N.2 := by rw [hK.1]; exact hLX
  have hX1 : XS 1 v N.1 := hX.keep (fun i h1 h2 => hK.2.1 i (by omega))
  have hr1 : N.1 0 8 = (r : Int) := (congrFun (hK.2.1 0 (by decide)) 8).trans hr
  have hh1 : ∀ k, k < 5 → N.2 21 k = some (h k) := fun k hk => by rw [hK.1]; exact hh k hk
  have hab := aFault_b (L := L) (t := t) hB.1
  refine v_ldc (-1000005) kc_X3_148 (by decide) dX3_play_7 ?_
  refine v_icmp_eq 15 dX3_play_9 (by decide) (by omega) (by decide) (fun h9 => ?_) (fun h9 => ?_)
  · skip
    have hpt := aFault_1 h9
    refine v_aload_n 0 dX3_play_15 rfl rfl ?_
    refine oVm0 3 (c_X3_remember hL1 hX1 hI hr1 hr5 hh1 hB5) k0_X3_remember ki_X3_remember ml_X3_60 (rfl : SH 0 = _) (by decide) (vRo_of hxR (by decide) (by decide)) dX3_play_16 (Nat.le_of_ble_eq_true rfl) (fun N2 hR => ?_)
    have hL2 := hL1.keep hR.2.1
    have hbb := (xh_p (P := fun b => stB b ∧ 40 ≤ b ∧ b ≤ 80) (r := r) hB5 (min r 4) (by omega)).2
    have hX2 : XS 1 v N2.1 := hX1.keep (fun i h1 h2 => hR.2.2.2.2.2 i (by omega) (by omega))
    have ht2 : N2.1 24 1 = (t : Int) := ((congrFun (hR.2.2.2.2.2 24 (by decide) (by omega)) 1).trans (hK.2.2.1 1 (by decide))).trans ht
    have hLt2 : ∀ k, k < t → N2.1 25 k = L k := fun k hk => ((congrFun (hR.2.2.2.2.2 25 (by decide) (by omega)) k).trans (congrFun (hK.2.1 25 (by decide)) k)).trans (hL k hk)
    refine v_aload_n 0 dX3_play_19 rfl rfl ?_
    refine v_getR lk_X3_33 rfl (rfl : SH 0 = _) (ow_5 hL2) dX3_play_20 ?_
    refine oVm0 1 (c_X1_begin) k0_X1_begin ki_X1_begin ml_X3_150 (rfl : SH 24 = _) (by decide) (vRo_of hxR (by decide) (by decide)) dX3_play_23 (Nat.le_of_ble_eq_true rfl) (fun N3 hK2 => ?_)
    have hL3 : LayX N3.2 := by rw [hK2.1]; exact hL2
    have hJ0 : xJ N2 N3 0 := ⟨hK2.1, fun i hi _ _ => hK2.2.1 i hi, hK2.2.2.1, hK2.2.2.2.1, hK2.2.2.2.2.1⟩
    have hX0 : XS 1 v N3.1 := hX2.keep (fun i h1 h2 => hK2.2.1 i (by omega))
    refine v_iconst dX3_play_26 ?_
    refine v_ist1 dX3_play_27 rfl ?_
    have lp28 : ∀ (dd j p : Nat) (w : Sg) (K : Mem), j + dd = 80 → p ≤ 100 → xJ N2 K p → XS 1 w K.1 → sInv w → (pT L t dd p).1 = true → pPl L t 80 0 v = ((pPl L t dd p w).1, (pPl L t dd p w).2 + j) → vO x Q G cX3_play RX3 28 [some (aR (some 0)), some (aI (j : Int))] [] K := by
      intro dd
      induction dd with
      | zero =>
        intro j p w K hd hp hJ hXw hIw hT hP
        have hLK : LayX K.2 := by rw [hJ.1]; exact hL2
        have hfin : pPl L t 80 0 v = (w, j) := by
          rw [hP]
          exact Prod.ext rfl (Nat.zero_add _)
        have hK1 : K.1 24 1 = (t : Int) := (hJ.2.2.1 1 (by decide)).trans ht2
        refine v_aload_n 0 dX3_play_28 rfl rfl ?_
        refine v_getR lk_X3_33 rfl (rfl : SH 0 = _) (ow_5 hLK) dX3_play_29 ?_
        refine oVv0 1 (c_X1_hasMore hJ.2.2.2.1 hK1 (by have := hB.1; omega)) k0_X1_hasMore ki_X1_hasMore ml_X3_153 (rfl : SH 24 = _) (by decide) (vRo_of hxR (by decide) (by decide)) dX3_play_32 (Nat.le_of_ble_eq_true rfl) ?_
        refine v_if_eq 61 dX3_play_35 (by decide) (bP_R _) (fun h35 => ?_) (fun h35 => ?_)
        · skip
          have g35 := bP_0.mp h35
          have hfin : pPl L t 80 0 v = (w, j) := by
            rw [hP, pPl_end (by omega)]
            exact Prod.ext rfl (Nat.zero_add _)
          refine v_iload_n 1 dX3_play_61 rfl rfl ?_
          refine o_iret hQ hlk hrt dX3_play_62 ?_
          exact .inl ⟨hpt, by rw [hfin], N, N2, ⟨_, _, _, _, _, hK⟩, hR, ⟨_, hJ⟩, by rw [hfin]; exact hXw⟩
        · skip
          have g35 := bP_n0.mp h35
          refine v_iload_n 1 dX3_play_38 rfl rfl ?_
          refine v_bipush dX3_play_39 (by decide) ?_
          refine v_icmp_ge 61 dX3_play_41 (by decide) (by omega) (by decide) (fun h41 => ?_) (fun h41 => ?_)
          · skip
            refine v_iload_n 1 dX3_play_61 rfl rfl ?_
            refine o_iret hQ hlk hrt dX3_play_62 ?_
            exact .inl ⟨hpt, by rw [hfin], N, N2, ⟨_, _, _, _, _, hK⟩, hR, ⟨_, hJ⟩, by rw [hfin]; exact hXw⟩
          · skip
            exact absurd h41 (by omega)
      | succ dd ih =>
        intro j p w K hd hp hJ hXw hIw hT hP
        have hLK : LayX K.2 := by rw [hJ.1]; exact hL2
        have hK1 : K.1 24 1 = (t : Int) := (hJ.2.2.1 1 (by decide)).trans ht2
        have hKL : ∀ k, k < t → K.1 25 k = L k := fun k hk => (congrFun (hJ.2.1 25 (by decide) (by decide) (by decide)) k).trans (hLt2 k hk)
        refine v_aload_n 0 dX3_play_28 rfl rfl ?_
        refine v_getR lk_X3_33 rfl (rfl : SH 0 = _) (ow_5 hLK) dX3_play_29 ?_
        refine oVv0 1 (c_X1_hasMore hJ.2.2.2.1 hK1 (by have := hB.1; omega)) k0_X1_hasMore ki_X1_hasMore ml_X3_153 (rfl : SH 24 = _) (by decide) (vRo_of hxR (by decide) (by decide)) dX3_play_32 (Nat.le_of_ble_eq_true rfl) ?_
        refine v_if_eq 61 dX3_play_35 (by decide) (bP_R _) (fun h35 => ?_) (fun h35 => ?_)
        · skip
          have g35 := bP_0.mp h35
          have hfin : pPl L t 80 0 v = (w, j) := by
            rw [hP, pPl_end (by omega)]
            exact Prod.ext rfl (Nat.zero_add _)
          refine v_iload_n 1 dX3_play_61 rfl rfl ?_
          refine o_iret hQ hlk hrt dX3_play_62 ?_
          exact .inl ⟨hpt, by rw [hfin], N, N2, ⟨_, _, _, _, _, hK⟩, hR, ⟨_, hJ⟩, by rw [hfin]; exact hXw⟩
        · skip
          have g35 := bP_n0.mp h35
          refine v_iload_n 1 dX3_play_38 rfl rfl ?_
          refine v_bipush dX3_play_39 (by decide) ?_
          refine v_icmp_ge 61 dX3_play_41 (by decide) (by omega) (by decide) (fun h41 => ?_) (fun h41 => ?_)
          · skip
            exact absurd h41 (by omega)
          · skip
            refine v_aload_n 0 dX3_play_44 rfl rfl ?_
            refine v_getR lk_X3_33 rfl (rfl : SH 0 = _) (ow_5 hLK) dX3_play_45 ?_
            refine oVm0 1 (c_X1_readAct hLK hKL hK1 hB (xK.rf hJ.2.2.2.1 hJ.2.2.2.2) (by omega)) k0_X1_readAct ki_X1_readAct ml_X3_157 (rfl : SH 24 = _) (by decide) (vRo_of hxR (by decide) (by decide)) dX3_play_48 (Nat.le_of_ble_eq_true rfl) (fun N hN => ?_)
            obtain ⟨p', q', f2, n2, hK3, hp', hy, hn⟩ := hN
            have ho1 : (pA L t p).1 = true := by
              rw [pT, if_pos g35] at hT
              by_cases g : (pA L t p).1 = true
              · exact g
              · rw [if_neg g] at hT; cases hT
            have hT2 : (pT L t dd (pA L t p).2).1 = true := by
              rw [pT, if_pos g35, if_pos ho1] at hT
              exact hT
            obtain ⟨rfl, rfl, hf1, hf2, hf3⟩ := hy ho1
            have hE := pE_x w ho1 hf1 hf2 hf3
            have hLN : LayX N.2 := by rw [hK3.1]; exact hLK
            have hXN : XS 1 w N.1 := hXw.keep (fun i h1 h2 => hK3.2.1 i (by omega))
            refine v_aload_n 0 dX3_play_51 rfl rfl ?_
            refine oVm0 3 (c_X3_carryOutAct hLN hXN hIw hK3.2.2.2.2.2.1 hK3.2.2.2.2.2.2.1 hK3.2.2.2.2.2.2.2 hE.2) k0_X3_carryOutAct ki_X3_carryOutAct ml_X3_160 (rfl : SH 0 = _) (by decide) (vRo_of hxR (by decide) (by decide)) dX3_play_52 (Nat.le_of_ble_eq_true rfl) (fun N' hN' => ?_)
            obtain ⟨hF, hX3⟩ := hN'
            rw [hE.1] at hX3
            refine v_iinc1 dX3_play_55 rfl ?_
            refine v_goto 28 dX3_play_58 (by decide) ?_
            exact ih (j + 1) (pA L t p).2 (pE L t w p) N' (by omega) (by have := (pA_b L t p).1; have := hB.1; omega) (hJ.step hK3 hF) hX3 (pE_inv hIw ho1) hT2 (by rw [hP, pPl, if_pos g35]; exact Prod.ext rfl (by dsimp only; omega))
    exact lp28 80 0 0 v N3 rfl (by decide) hJ0 hX0 hI hpt rfl
  · skip
    refine v_ldc (-1000003) kc_X3_149 (by decide) dX3_play_12 ?_
    refine o_iret hQ hlk hrt dX3_play_14 ?_
    exact .inr ⟨aFault_0 h9, rfl, _, _, _, _, _, hK⟩
