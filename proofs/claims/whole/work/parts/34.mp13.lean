/-! ===== the twin: the text as a whole, play ===== -/
def pT (L : Nat → Int) (t : Nat) : Nat → Nat → Bool × Nat
  | 0, p => (true, p)
  | n + 1, p => if p < t then (if (pA L t p).1 = true then pT L t n (pA L t p).2 else (false, (pA L t p).2)) else (true, p)
theorem pT_end {L : Nat → Int} {t p : Nat} (h : t ≤ p) : ∀ n, pT L t n p = (true, p)
  | 0 => rfl
  | n + 1 => by rw [pT, if_neg (by omega)]
theorem pA_b (L : Nat → Int) (t p : Nat) : (pA L t p).2 ≤ p + 6 ∧ ((pA L t p).1 = true → p + 1 ≤ (pA L t p).2) := by
  unfold pA
  repeat' split
  all_goals dsimp only
  all_goals first
    | omega
    | (have := pNl_d (show pOk L t (p + 2) 0 23 by assumption).1; omega)
    | (have := pNl_d (show pOk L t (p + 1) 1 200 by assumption).1; omega)
    | (have := pNl_d (show pOk L t (p + 2) 0 23 by assumption).1; exact ⟨by omega, fun q => by cases q⟩)
    | (have := pNl_d (show pOk L t (p + 1) 1 200 by assumption).1; exact ⟨by omega, fun q => by cases q⟩)
    | exact ⟨by omega, fun q => by cases q⟩
theorem pA_ok {L : Nat → Int} {t p : Nat} (h : (pA L t p).1 = true) : (tH L t p = 116 ∧ 1 ≤ pNv L t (p + 1) ∧ pNv L t (p + 1) ≤ 200) ∨ ((tH L t p = 100 ∨ tH L t p = 114) ∧ 0 ≤ tH L t (p + 1) - 48 ∧ tH L t (p + 1) - 48 ≤ 7) ∨ ((tH L t p = 112 ∨ tH L t p = 108) ∧ (0 ≤ tH L t (p + 1) - 48 ∧ tH L t (p + 1) - 48 ≤ 1) ∧ 0 ≤ pNv L t (p + 2) ∧ pNv L t (p + 2) ≤ 23) := by
  unfold pA at h
  by_cases h1 : tH L t p = 100 ∨ tH L t p = 114
  · rw [if_pos h1] at h
    by_cases h2 : 0 ≤ tH L t (p + 1) - 48 ∧ tH L t (p + 1) - 48 ≤ 7
    · exact .inr (.inl ⟨h1, h2⟩)
    · rw [if_neg h2] at h; cases h
  · rw [if_neg h1] at h
    by_cases h2 : tH L t p = 112 ∨ tH L t p = 108
    · rw [if_pos h2] at h
      by_cases h3 : 0 ≤ tH L t (p + 1) - 48 ∧ tH L t (p + 1) - 48 ≤ 1
      · rw [if_pos h3] at h
        by_cases h4 : pOk L t (p + 2) 0 23
        · exact .inr (.inr ⟨h2, h3, h4.2⟩)
        · rw [if_neg h4] at h; cases h
      · rw [if_neg h3] at h; cases h
    · rw [if_neg h2] at h
      by_cases h3 : tH L t p = 116
      · rw [if_pos h3] at h
        by_cases h4 : pOk L t (p + 1) 1 200
        · exact .inl ⟨h3, h4.2⟩
        · rw [if_neg h4] at h; cases h
      · rw [if_neg h3] at h; cases h
theorem tK.ini (M : Mem) : tK M (vup M.1 110 17 0, M.2) 0 (M.1 110 18) (M.1 110 19) (M.1 110 20) := by
  refine ⟨rfl, fun i hi => ?_, fun k hk => ?_, ?_, ?_, ?_, ?_⟩ <;> dsimp only
  · funext b; rw [vup_o (by omega)]
  · rw [vup_o (by omega)]
  · rw [vup_s]; rfl
  · rw [vup_o (by omega)]
  · rw [vup_o (by omega)]
  · rw [vup_o (by omega)]
theorem tK.rf {M : Mem} {p : Nat} (h : M.1 110 17 = (p : Int)) : tK M M p (M.1 110 18) (M.1 110 19) (M.1 110 20) := ⟨rfl, fun _ _ => rfl, fun _ _ => rfl, h, rfl, rfl, rfl⟩
def aFault (L : Nat → Int) (t : Nat) : Int := if (pT L t 80 0).1 = true then -1000005 else ((pT L t 80 0).2 : Int)
theorem pT_b {L : Nat → Int} {t : Nat} (h : t ≤ 80) : ∀ n p, p ≤ 100 → (pT L t n p).2 ≤ 100
  | 0, p, hp => hp
  | n + 1, p, hp => by
    rw [pT]
    split
    · have := pA_b L t p
      split
      · exact pT_b h n _ (by omega)
      · show (pA L t p).2 ≤ 100
        omega
    · exact hp
set_option maxRecDepth 100000 in
set_option maxHeartbeats 400000 in
theorem c_X4_isText {l : Launch} {G : vGG} {M : Mem} {L : Nat → Int} {t : Nat} (hLM : LayM M.2) (hL : M.1 116 = L) (ht : M.1 110 7 = (t : Int)) (hB : pLt L t) : Co l yX4_isText cX4_isText 2 (some .boolean) (rmo 4 87) G [aR (some 110)] M (fun r M' => r = some (aI (bP ((pT L t 80 0).1 = true))) ∧ ∃ a f n : Int, tK M M' (pT L t 80 0).2 a f n) := by
  refine Co.ofV (plainFor_of_name (by decide)) rfl rfl ?_
  intro x hxl hxR hlk hrt Q hQ
  have ht80 := hB.1
  show vO x Q G cX4_isText RX4 0 [some (aR (some 110)), none] [] M
  refine v_aload_n 0 dX4_isText_0 rfl rfl ?_
  refine v_iconst dX4_isText_1 ?_
  refine v_putI lp_X4_143 rfl rfl (rfl : SH 110 = _) dX4_isText_2 ?_
  refine o_tK (tK.ini M) (fun K hK => ?_)
  refine v_iconst dX4_isText_5 ?_
  refine o_eqI (u := bP (true = true)) rfl ?_
  refine v_ist1 dX4_isText_6 rfl ?_
  have lp7 : ∀ (dd p : Nat) (b : Bool) (K : Mem) (a f n : Int), (b = true → t ≤ p + dd) → p ≤ 100 → tK M K p a f n → (if b = true then pT L t dd p else (false, p)) = pT L t 80 0 → vO x Q G cX4_isText RX4 7 [some (aR (some 110)), some (aI (bP (b = true)))] [] K := by
    intro dd
    induction dd with
    | zero =>
      intro p b K a f n hd hp hK he
      have h7 : K.1 110 7 = (t : Int) := (hK.2.2.1 7 (by decide)).trans ht
      have h17 := hK.2.2.2.1
      refine v_iload_n 1 dX4_isText_7 rfl rfl ?_
      refine v_if_eq 30 dX4_isText_8 (by decide) (bP_R _) (fun h8 => ?_) (fun h8 => ?_)
      · skip
        obtain rfl : b = false := by simpa using bP_0.mp h8
        rw [if_neg (by decide)] at he
        refine v_iload_n 1 dX4_isText_30 rfl rfl ?_
        refine o_zret hQ hlk hrt (bP_01 _) dX4_isText_31 ?_
        exact ⟨by rw [← he], _, _, _, by rw [← he]; exact hK⟩
      · skip
        obtain rfl : b = true := bP_n0.mp h8
        rw [if_pos rfl] at he
        refine v_aload_n 0 dX4_isText_11 rfl rfl ?_
        refine o_getI (u := (p : Int)) lk_X4_143 rfl (rfl : SH 110 = _) h17 dX4_isText_12 ?_
        refine v_aload_n 0 dX4_isText_15 rfl rfl ?_
        refine o_getI (u := (t : Int)) lk_X4_140 rfl (rfl : SH 110 = _) h7 dX4_isText_16 ?_
        refine v_icmp_ge 30 dX4_isText_19 (by decide) (by omega) (by omega) (fun h19 => ?_) (fun h19 => ?_)
        · skip
          rw [pT_end (by omega)] at he
          refine v_iload_n 1 dX4_isText_30 rfl rfl ?_
          refine o_zret hQ hlk hrt (bP_01 _) dX4_isText_31 ?_
          exact ⟨by rw [← he], _, _, _, by rw [← he]; exact hK⟩
        · skip
          exact absurd h19 (by have := hd rfl; omega)
    | succ dd ih =>
      intro p b K a f n hd hp hK he
      have h7 : K.1 110 7 = (t : Int) := (hK.2.2.1 7 (by decide)).trans ht
      have h17 := hK.2.2.2.1
      refine v_iload_n 1 dX4_isText_7 rfl rfl ?_
      refine v_if_eq 30 dX4_isText_8 (by decide) (bP_R _) (fun h8 => ?_) (fun h8 => ?_)
      · skip
        obtain rfl : b = false := by simpa using bP_0.mp h8
        rw [if_neg (by decide)] at he
        refine v_iload_n 1 dX4_isText_30 rfl rfl ?_
        refine o_zret hQ hlk hrt (bP_01 _) dX4_isText_31 ?_
        exact ⟨by rw [← he], _, _, _, by rw [← he]; exact hK⟩
      · skip
        obtain rfl : b = true := bP_n0.mp h8
        rw [if_pos rfl] at he
        refine v_aload_n 0 dX4_isText_11 rfl rfl ?_
        refine o_getI (u := (p : Int)) lk_X4_143 rfl (rfl : SH 110 = _) h17 dX4_isText_12 ?_
        refine v_aload_n 0 dX4_isText_15 rfl rfl ?_
        refine o_getI (u := (t : Int)) lk_X4_140 rfl (rfl : SH 110 = _) h7 dX4_isText_16 ?_
        refine v_icmp_ge 30 dX4_isText_19 (by decide) (by omega) (by omega) (fun h19 => ?_) (fun h19 => ?_)
        · skip
          rw [pT_end (by omega)] at he
          refine v_iload_n 1 dX4_isText_30 rfl rfl ?_
          refine o_zret hQ hlk hrt (bP_01 _) dX4_isText_31 ?_
          exact ⟨by rw [← he], _, _, _, by rw [← he]; exact hK⟩
        · skip
          refine v_aload_n 0 dX4_isText_22 rfl rfl ?_
          refine oVq0 4 (c_X4_isAct hLM hL ht hB hK (by omega)) k0_X4_isAct ki_X4_isAct ml_X4_171 (rfl : SH 110 = _) (by decide) (vRo_of hxR (by decide) (by decide)) dX4_isText_23 (Nat.le_of_ble_eq_true rfl) (fun N hN => ?_)
          obtain ⟨f2, n2, hK, hfn⟩ := hN
          refine v_ist1 dX4_isText_26 rfl ?_
          refine v_goto 7 dX4_isText_27 (by decide) ?_
          exact ih (pA L t p).2 (pA L t p).1 N _ _ _ (fun q => by have := (pA_b L t p).2 q; have := hd rfl; omega) (by have := (pA_b L t p).1; omega) hK (by rw [← he, pT, if_pos (show p < t by omega)])
  exact lp7 80 0 true _ _ _ _ (fun _ => by omega) (by decide) hK (if_pos rfl)
set_option maxRecDepth 100000 in
set_option maxHeartbeats 400000 in
theorem c_X4_faultPosition {l : Launch} {G : vGG} {M : Mem} {L : Nat → Int} {t : Nat} (hLM : LayM M.2) (hL : M.1 116 = L) (ht : M.1 110 7 = (t : Int)) (hB : pLt L t) : Co l yX4_faultPosition cX4_faultPosition 1 (some .int) (rmo 5 108) G [aR (some 110)] M (fun r M' => r = some (aI (aFault L t)) ∧ ∃ (p : Nat) (a f n : Int), tK M M' p a f n) := by
  refine Co.ofV (plainFor_of_name (by decide)) rfl rfl ?_
  intro x hxl hxR hlk hrt Q hQ
  show vO x Q G cX4_faultPosition RX4 0 [some (aR (some 110))] [] M
  refine v_aload_n 0 dX4_faultPosition_0 rfl rfl ?_
  refine oVq0 4 (c_X4_isText hLM hL ht hB) k0_X4_isText ki_X4_isText ml_X4_174 (rfl : SH 110 = _) (by decide) (vRo_of hxR (by decide) (by decide)) dX4_faultPosition_1 (Nat.le_of_ble_eq_true rfl) (fun N hN => ?_)
  obtain ⟨a, f, n, hK⟩ := hN
  refine v_if_eq 12 dX4_faultPosition_4 (by decide) (bP_R _) (fun h4 => ?_) (fun h4 => ?_)
  · skip
    have g := bP_0.mp h4
    refine v_aload_n 0 dX4_faultPosition_12 rfl rfl ?_
    refine o_getI (u := ((pT L t 80 0).2 : Int)) lk_X4_143 rfl (rfl : SH 110 = _) hK.2.2.2.1 dX4_faultPosition_13 ?_
    refine o_iret hQ hlk hrt dX4_faultPosition_16 ?_
    first | exact ⟨by rw [aFault, if_neg g], _, _, _, _, hK⟩ | exact ⟨by rw [aFault, if_pos g], _, _, _, _, hK⟩
  · skip
    have g := bP_n0.mp h4
    refine v_ldc (-1000005) kc_X4_177 (by decide) dX4_faultPosition_7 ?_
    refine v_goto 16 dX4_faultPosition_9 (by decide) ?_
    refine o_iret hQ hlk hrt dX4_faultPosition_16 ?_
    first | exact ⟨by rw [aFault, if_neg g], _, _, _, _, hK⟩ | exact ⟨by rw [aFault, if_pos g], _, _, _, _, hK⟩
def pE (L : Nat → Int) (t : Nat) (w : Sg) (p : Nat) : Sg := if tH L t p = 116 then sTks w (pNv L t (p + 1)).toNat else if tH L t p = 100 ∨ tH L t p = 114 then sDra w (tH L t (p + 1) - 48).toNat (bP (tH L t p = 100)) else sPre w (tH L t (p + 1) - 48).toNat (pNv L t (p + 2)).toNat (bP (tH L t p = 112))
def pPl (L : Nat → Int) (t : Nat) : Nat → Nat → Sg → Sg × Nat
  | 0, _, w => (w, 0)
  | n + 1, p, w => if p < t then ((pPl L t n (pA L t p).2 (pE L t w p)).1, (pPl L t n (pA L t p).2 (pE L t w p)).2 + 1) else (w, 0)
theorem pPl_end {L : Nat → Int} {t p : Nat} (h : t ≤ p) (w : Sg) : ∀ n, pPl L t n p w = (w, 0)
  | 0 => rfl
  | n + 1 => by rw [pPl, if_neg (by omega)]
theorem pre_inv {v : Sg} (hI : sInv v) {m k : Nat} (hm : m < 2) (hk : k < 24) (on : Int) : sInv (sPre v m k on) := by
  have hb := pre_b hI hm
  have hlt := wth_lt (s := (v (11 + m)).toNat) (decide (on ≠ 0)) (by omega) hk
  obtain ⟨h1, h2, h3, h4, h5, h6⟩ := hI
  have e : ∀ i, i ≠ 11 + m → sPre v m k on i = v i := fun i hi => sup_ne _ _ hi
  refine ⟨fun t ht => by rw [e _ (by omega), e (24 + 5 * t + 1) (by omega), e (24 + 5 * t + 2) (by omega), e (24 + 5 * t + 3) (by omega), e (256 + t) (by omega)]; exact h1 t ht, ?_, fun p hp => by rw [e _ (by omega)]; exact h3 p hp, ?_, ?_, ?_⟩
  · have : ∀ t, t ≤ 8 → sCi (sPre v m k on) t = sCi v t := by
      intro t
      induction t with
      | zero => intro _; rfl
      | succ t ih => intro ht; rw [sCi, sCi, ih (by omega), e _ (by omega)]
    rw [this 8 (Nat.le_refl _)]
    exact h2
  · rw [e 1 (by omega), e 2 (by omega), e 3 (by omega), e 4 (by omega), e 5 (by omega), e 6 (by omega), e 7 (by omega), e 8 (by omega), e 9 (by omega)]
    exact h4
  · rw [e 10 (by omega)]
    refine ⟨h5.1, ?_, ?_⟩
    · rcases (show m = 0 ∨ m = 1 by omega) with rfl | rfl
      · rw [sPre, sup_eq]; omega
      · rw [e 11 (by omega)]; exact h5.2.1
    · rcases (show m = 0 ∨ m = 1 by omega) with rfl | rfl
      · rw [e 12 (by omega)]; exact h5.2.2
      · show 0 ≤ sup v 12 _ 12 ∧ sup v 12 _ 12 < 16777216
        rw [sup_eq]; omega
  · rw [e 0 (by omega), e 17 (by omega), e 20 (by omega), e 21 (by omega), e 22 (by omega), e 23 (by omega)]
    exact h6
theorem pE_inv {L : Nat → Int} {t p : Nat} {w : Sg} (hI : sInv w) (h : (pA L t p).1 = true) : sInv (pE L t w p) := by
  have ho := pA_ok h
  unfold pE
  by_cases h1 : tH L t p = 116
  · rw [if_pos h1]; exact sTks_inv hI _
  · rw [if_neg h1]
    by_cases h2 : tH L t p = 100 ∨ tH L t p = 114
    · rw [if_pos h2]; exact dra_inv hI (by omega) _
    · rw [if_neg h2]; exact pre_inv hI (by omega) (by omega) _
/-- where a play stands -/
def pJ (M0 K : Mem) (p : Nat) : Prop := K.2 = M0.2 ∧ (∀ i, i ≠ 110 → i ∉ mL → K.1 i = M0.1 i) ∧ (∀ k, k < 17 → K.1 110 k = M0.1 110 k) ∧ K.1 110 17 = (p : Int)
theorem pJ.step {M0 K N N' : Mem} {p p' : Nat} {a f n : Int} {Lf : List Nat} (h : pJ M0 K p) (h1 : tK K N p' a f n) (h2 : fr Lf N N') (hs : ∀ i, i ∈ Lf → i ∈ mL) (h0 : 110 ∉ Lf) : pJ M0 N' p' := by
  refine ⟨h2.1.trans (h1.1.trans h.1), fun i hi hm => ?_, fun k hk => ?_, ?_⟩
  · rw [h2.2 i (fun q => hm (hs i q)), h1.2.1 i hi, h.2.1 i hi hm]
  · rw [h2.2 110 h0, h1.2.2.1 k hk, h.2.2.1 k hk]
  · rw [h2.2 110 h0]; exact h1.2.2.2.1
theorem pPl_cnt (L : Nat → Int) (t : Nat) : ∀ n p w, (pPl L t n p w).2 ≤ n
  | 0, _, _ => Nat.le_refl _
  | n + 1, p, w => by
    rw [pPl]
    split
    · have := pPl_cnt L t n (pA L t p).2 (pE L t w p)
      show (pPl L t n (pA L t p).2 (pE L t w p)).2 + 1 ≤ n + 1
      omega
    · exact Nat.zero_le _
def pPost (n : Nat) (v : Sg) (L : Nat → Int) (t : Nat) (M : Mem) (r : Option AV) (M' : Mem) : Prop :=
  ((pT L t 80 0).1 = true ∧ r = some (aI (((pPl L t 80 0 v).2 : Nat) : Int)) ∧ ∃ N1 M2 : Mem, (∃ (p : Nat) (a f n : Int), tK M N1 p a f n) ∧ mRec n v N1 M2 ∧ M'.2 = M2.2 ∧ (∀ i, i ≠ 110 → i ∉ mL → M'.1 i = M2.1 i) ∧ (∀ k, k < 17 → M'.1 110 k = M2.1 110 k) ∧ M'.1 111 = (pPl L t 80 0 v).1) ∨
  (¬ (pT L t 80 0).1 = true ∧ r = some (aI (-1000003)) ∧ ∃ (p : Nat) (a f n : Int), tK M M' p a f n)
set_option maxRecDepth 100000 in
set_option maxHeartbeats 1000000 in
theorem c_X4_play {l : Launch} {G : vGG} {M : Mem} {L : Nat → Int} {t : Nat} (hLM : LayM M.2) (hL : M.1 116 = L) (ht : M.1 110 7 = (t : Int)) (hB : pLt L t) {v : Sg} (hv : M.1 111 = v) (hI : sInv v) {n : Nat} (hn : M.1 110 3 = (n : Int)) (h5 : n ≤ 5) : Co l yX4_play cX4_play 4 (some .int) (rmo 5 114) G [aR (some 110)] M (pPost n v L t M) := by
  refine Co.ofV (plainFor_of_name (by decide)) rfl rfl ?_
  intro x hxl hxR hlk hrt Q hQ
  have ht80 := hB.1
  show vO x Q G cX4_play RX4 0 [some (aR (some 110)), none, none, none] [] M
  refine v_aload_n 0 dX4_play_0 rfl rfl ?_
  refine oVq0 4 (c_X4_isText hLM hL ht hB) k0_X4_isText ki_X4_isText ml_X4_174 (rfl : SH 110 = _) (by decide) (vRo_of hxR (by decide) (by decide)) dX4_play_1 (Nat.le_of_ble_eq_true rfl) (fun N hN => ?_)
  obtain ⟨a, f, n0, hK⟩ := hN
  have hL1 := hK.lay hLM
  have hv1 : N.1 111 = v := (hK.2.1 111 (by decide)).trans hv
  have hn1 : N.1 110 3 = (n : Int) := (hK.2.2.1 3 (by decide)).trans hn
  refine v_if_ne 10 dX4_play_4 (by decide) (bP_R _) (fun h4 => ?_) (fun h4 => ?_)
  · skip
    have g := bP_n0.mp h4
    refine v_aload_n 0 dX4_play_10 rfl rfl ?_
    refine oVm0 4 (c_X4_records hL1 hv1 hn1 h5) k0_X4_records ki_X4_records ml_X4_73 (rfl : SH 110 = _) (by decide) (vRo_of hxR (by decide) (by decide)) dX4_play_11 (Nat.le_of_ble_eq_true rfl) (fun N hN => ?_)
    rename_i N1
    have hR := hN
    obtain ⟨M2, hM2⟩ : ∃ M2, M2 = N := ⟨_, rfl⟩
    have hL2 : LayM M2.2 := by rw [hM2]; exact hR.lay hL1
    have hLt : M2.1 116 = L := by rw [hM2, hR.at (by decide) (by decide), hK.2.1 116 (by decide)]; exact hL
    have ht2 : M2.1 110 7 = (t : Int) := by rw [hM2, hR.2.2.1 7 (by decide), hK.2.2.1 7 (by decide)]; exact ht
    have hv2 : M2.1 111 = v := by rw [hM2, hR.at (by decide) (by decide)]; exact hv1
    rw [← hM2]
    have hK1 := hK
    have hR2 : mRec n v N1 M2 := by rw [hM2]; exact hR
    refine v_aload_n 0 dX4_play_14 rfl rfl ?_
    refine v_iconst dX4_play_15 ?_
    refine v_putI lp_X4_143 rfl rfl (rfl : SH 110 = _) dX4_play_16 ?_
    obtain ⟨K, hK0⟩ : ∃ K, K = ((vup M2.1 110 17 0, M2.2) : Mem) := ⟨_, rfl⟩
    have hJ : pJ M2 K 0 := by rw [hK0]; exact ⟨rfl, fun i hi _ => by funext b; dsimp only; rw [vup_o (by omega)], fun k hk => by dsimp only; rw [vup_o (by omega)], by dsimp only; rw [vup_s]; rfl⟩
    have hvK : K.1 111 = v := by rw [hK0, ← hv2]; funext b; dsimp only; rw [vup_o (by omega)]
    rw [← hK0]
    refine v_iconst dX4_play_19 ?_
    refine v_ist1 dX4_play_20 rfl ?_
    have lp21 : ∀ (dd p c : Nat) (w : Sg) (K : Mem) (c2 c3 : Option AV), t ≤ p + dd → p ≤ 100 → c + dd ≤ 80 → (pT L t dd p).1 = true → sInv w → pJ M2 K p → K.1 111 = w → pPl L t 80 0 v = ((pPl L t dd p w).1, (pPl L t dd p w).2 + c) → vO x Q G cX4_play RX4 21 [some (aR (some 110)), some (aI (c : Int)), c2, c3] [] K := by
      intro dd
      induction dd with
      | zero =>
        intro p c w K c2 c3 hd hp hc hv0 hIw hJ hw he
        have h7 : K.1 110 7 = (t : Int) := (hJ.2.2.1 7 (by decide)).trans ht2
        have h17 := hJ.2.2.2
        have hLK : LayM K.2 := by rw [hJ.1]; exact hL2
        have hLL : K.1 116 = L := (hJ.2.1 116 (by decide) (by decide)).trans hLt
        refine v_aload_n 0 dX4_play_21 rfl rfl ?_
        refine o_getI (u := (p : Int)) lk_X4_143 rfl (rfl : SH 110 = _) h17 dX4_play_22 ?_
        refine v_aload_n 0 dX4_play_25 rfl rfl ?_
        refine o_getI (u := (t : Int)) lk_X4_140 rfl (rfl : SH 110 = _) h7 dX4_play_26 ?_
        refine v_icmp_ge 133 dX4_play_29 (by decide) (by omega) (by omega) (fun h29 => ?_) (fun h29 => ?_)
        · skip
          rw [pPl_end (show t ≤ p by omega)] at he
          refine v_iload_n 1 dX4_play_133 rfl rfl ?_
          refine o_iret hQ hlk hrt dX4_play_134 ?_
          exact .inl ⟨g, by rw [he, Nat.zero_add], N1, M2, ⟨_, _, _, _, hK1⟩, hR2, hJ.1, hJ.2.1, hJ.2.2.1, by rw [he]; exact hw⟩
        · skip
          exact absurd h29 (by omega)
      | succ dd ih =>
        intro p c w K c2 c3 hd hp hc hv0 hIw hJ hw he
        have h7 : K.1 110 7 = (t : Int) := (hJ.2.2.1 7 (by decide)).trans ht2
        have h17 := hJ.2.2.2
        have hLK : LayM K.2 := by rw [hJ.1]; exact hL2
        have hLL : K.1 116 = L := (hJ.2.1 116 (by decide) (by decide)).trans hLt
        refine v_aload_n 0 dX4_play_21 rfl rfl ?_
        refine o_getI (u := (p : Int)) lk_X4_143 rfl (rfl : SH 110 = _) h17 dX4_play_22 ?_
        refine v_aload_n 0 dX4_play_25 rfl rfl ?_
        refine o_getI (u := (t : Int)) lk_X4_140 rfl (rfl : SH 110 = _) h7 dX4_play_26 ?_
        refine v_icmp_ge 133 dX4_play_29 (by decide) (by omega) (by omega) (fun h29 => ?_) (fun h29 => ?_)
        · skip
          rw [pPl_end (show t ≤ p by omega)] at he
          refine v_iload_n 1 dX4_play_133 rfl rfl ?_
          refine o_iret hQ hlk hrt dX4_play_134 ?_
          exact .inl ⟨g, by rw [he, Nat.zero_add], N1, M2, ⟨_, _, _, _, hK1⟩, hR2, hJ.1, hJ.2.1, hJ.2.2.1, by rw [he]; exact hw⟩
        · skip
          refine v_aload_n 0 dX4_play_32 rfl rfl ?_
          refine oVq0 4 (c_X4_isAct hLK hLL h7 hB (tK.rf h17) (by omega)) k0_X4_isAct ki_X4_isAct ml_X4_171 (rfl : SH 110 = _) (by decide) (vRo_of hxR (by decide) (by decide)) dX4_play_33 (Nat.le_of_ble_eq_true rfl) (fun N hN => ?_)
          obtain ⟨f2, n2, hK, hfn⟩ := hN
          have ho : (pA L t p).1 = true := by rw [pT, if_pos (show p < t by omega)] at hv0; by_cases q : (pA L t p).1 = true; exact q; rw [if_neg q] at hv0; cases hv0
          rw [pT, if_pos (show p < t by omega), if_pos ho] at hv0
          have hfn := hfn ho
          have hok := pA_ok ho
          have hLN := hK.lay hLK
          have hwN : N.1 111 = w := (hK.2.1 111 (by decide)).trans hw
          have hHb := tH_b hB p
          have hab := pA_b L t p
          have hab2 := hab.2 ho
          refine v_ist2 dX4_play_36 rfl ?_
          refine v_aload_n 0 dX4_play_37 rfl rfl ?_
          refine o_getI (u := (tH L t p)) lk_X4_159 rfl (rfl : SH 110 = _) hK.2.2.2.2.1 dX4_play_38 ?_
          refine v_bipush dX4_play_41 (by decide) ?_
          have jn126 : ∀ (z : Int) (N' : Mem), pJ M2 N' (pA L t p).2 → N'.1 111 = pE L t w p → vO x Q G cX4_play RX4 126 [some (aR (some 110)), some (aI (c : Int)), some (aI (bP ((pA L t p).1 = true))), c3] [aI z] N' := by
            intro z N' hJ' hw'
            refine v_ist3 dX4_play_126 rfl ?_
            refine v_iinc1 dX4_play_127 rfl ?_
            refine v_goto 21 dX4_play_130 (by decide) ?_
            exact ih (pA L t p).2 (c + 1) _ _ _ _ (by omega) (by omega) (by omega) hv0 (pE_inv hIw ho) hJ' hw' (by rw [he, pPl, if_pos (show p < t by omega)]; dsimp only; rw [Nat.add_right_comm, Nat.add_assoc])
          refine v_icmp_ne 57 dX4_play_43 (by decide) (by omega) (by decide) (fun h43 => ?_) (fun h43 => ?_)
          · skip
            refine v_aload_n 0 dX4_play_57 rfl rfl ?_
            refine o_getI (u := (tH L t p)) lk_X4_159 rfl (rfl : SH 110 = _) hK.2.2.2.2.1 dX4_play_58 ?_
            refine v_bipush dX4_play_61 (by decide) ?_
            refine v_icmp_eq 75 dX4_play_63 (by decide) (by omega) (by decide) (fun h63 => ?_) (fun h63 => ?_)
            · skip
              refine v_aload_n 0 dX4_play_75 rfl rfl ?_
              refine v_aload_n 0 dX4_play_76 rfl rfl ?_
              refine o_getI (u := (((tH L t (p + 1) - 48).toNat : Nat) : Int)) lk_X4_149 rfl (rfl : SH 110 = _) (by rw [hK.2.2.2.2.2.1, hfn.1 (by omega)]; omega) dX4_play_77 ?_
              refine v_aload_n 0 dX4_play_80 rfl rfl ?_
              refine o_getI (u := (tH L t p)) lk_X4_159 rfl (rfl : SH 110 = _) hK.2.2.2.2.1 dX4_play_81 ?_
              refine v_bipush dX4_play_84 (by decide) ?_
              have jn94 : ∀ z : Int, z = bP (tH L t p = 100) → vO x Q G cX4_play RX4 94 [some (aR (some 110)), some (aI (c : Int)), some (aI (bP ((pA L t p).1 = true))), c3] [aI z, aI (((tH L t (p + 1) - 48).toNat : Nat) : Int), aR (some 110)] N := by
                intro z hz
                subst hz
                refine oVq2 4 (c_X4_draws (s := (tH L t (p + 1) - 48).toNat) hLN hwN hIw (by omega) (bP_R _)) k0_X4_draws ki_X4_draws ml_X4_99 (rfl : SH 110 = _) (by decide) (vRo_of hxR (by decide) (by decide)) dX4_play_94 (Nat.le_of_ble_eq_true rfl) (fun N hN => ?_)
                obtain ⟨hF2, hv2⟩ := hN
                refine v_goto 126 dX4_play_97 (by decide) ?_
                first | exact jn126 _ _ (hJ.step hK hF2 (by decide) (by decide)) (by rw [hv2, pE, if_pos g43]) | exact jn126 _ _ (hJ.step hK hF2 (by decide) (by decide)) (by rw [hv2, pE, if_neg (by omega), if_pos (by omega)]) | exact jn126 _ _ (hJ.step hK hF2 (by decide) (by decide)) (by rw [hv2, pE, if_neg (by omega), if_neg (by omega)])
              refine v_icmp_ne 93 dX4_play_86 (by decide) (by omega) (by decide) (fun h86 => ?_) (fun h86 => ?_)
              · skip
                refine v_iconst dX4_play_93 ?_
                first | exact jn94 _ (bP_f h86).symm | exact jn94 _ (bP_t h86).symm
              · skip
                refine v_iconst dX4_play_89 ?_
                refine v_goto 94 dX4_play_90 (by decide) ?_
                first | exact jn94 _ (bP_f h86).symm | exact jn94 _ (bP_t h86).symm
            · skip
              refine v_aload_n 0 dX4_play_66 rfl rfl ?_
              refine o_getI (u := (tH L t p)) lk_X4_159 rfl (rfl : SH 110 = _) hK.2.2.2.2.1 dX4_play_67 ?_
              refine v_bipush dX4_play_70 (by decide) ?_
              refine v_icmp_ne 100 dX4_play_72 (by decide) (by omega) (by decide) (fun h72 => ?_) (fun h72 => ?_)
              · skip
                refine v_aload_n 0 dX4_play_100 rfl rfl ?_
                refine v_aload_n 0 dX4_play_101 rfl rfl ?_
                refine o_getI (u := (((tH L t (p + 1) - 48).toNat : Nat) : Int)) lk_X4_149 rfl (rfl : SH 110 = _) (by rw [hK.2.2.2.2.2.1, hfn.1 (by omega)]; omega) dX4_play_102 ?_
                refine v_aload_n 0 dX4_play_105 rfl rfl ?_
                refine o_getI (u := (((pNv L t (p + 2)).toNat : Nat) : Int)) lk_X4_156 rfl (rfl : SH 110 = _) (by rw [hK.2.2.2.2.2.2, hfn.2.1 (by omega)]; omega) dX4_play_106 ?_
                refine v_aload_n 0 dX4_play_109 rfl rfl ?_
                refine o_getI (u := (tH L t p)) lk_X4_159 rfl (rfl : SH 110 = _) hK.2.2.2.2.1 dX4_play_110 ?_
                refine v_bipush dX4_play_113 (by decide) ?_
                have jn123 : ∀ z : Int, z = bP (tH L t p = 112) → vO x Q G cX4_play RX4 123 [some (aR (some 110)), some (aI (c : Int)), some (aI (bP ((pA L t p).1 = true))), c3] [aI z, aI (((pNv L t (p + 2)).toNat : Nat) : Int), aI (((tH L t (p + 1) - 48).toNat : Nat) : Int), aR (some 110)] N := by
                  intro z hz
                  subst hz
                  refine oVq3 4 (c_X4_presses (s := (tH L t (p + 1) - 48).toNat) (k := (pNv L t (p + 2)).toNat) hLN hwN hIw (by omega) (by omega) (bP_R _)) k0_X4_presses ki_X4_presses ml_X4_103 (rfl : SH 110 = _) (by decide) (vRo_of hxR (by decide) (by decide)) dX4_play_123 (Nat.le_of_ble_eq_true rfl) (fun N hN => ?_)
                  obtain ⟨hF2, hv2⟩ := hN
                  first | exact jn126 _ _ (hJ.step hK hF2 (by decide) (by decide)) (by rw [hv2, pE, if_pos g43]) | exact jn126 _ _ (hJ.step hK hF2 (by decide) (by decide)) (by rw [hv2, pE, if_neg (by omega), if_pos (by omega)]) | exact jn126 _ _ (hJ.step hK hF2 (by decide) (by decide)) (by rw [hv2, pE, if_neg (by omega), if_neg (by omega)])
                refine v_icmp_ne 122 dX4_play_115 (by decide) (by omega) (by decide) (fun h115 => ?_) (fun h115 => ?_)
                · skip
                  refine v_iconst dX4_play_122 ?_
                  first | exact jn123 _ (bP_f h115).symm | exact jn123 _ (bP_t h115).symm
                · skip
                  refine v_iconst dX4_play_118 ?_
                  refine v_goto 123 dX4_play_119 (by decide) ?_
                  first | exact jn123 _ (bP_f h115).symm | exact jn123 _ (bP_t h115).symm
              · skip
                refine v_aload_n 0 dX4_play_75 rfl rfl ?_
                refine v_aload_n 0 dX4_play_76 rfl rfl ?_
                refine o_getI (u := (((tH L t (p + 1) - 48).toNat : Nat) : Int)) lk_X4_149 rfl (rfl : SH 110 = _) (by rw [hK.2.2.2.2.2.1, hfn.1 (by omega)]; omega) dX4_play_77 ?_
                refine v_aload_n 0 dX4_play_80 rfl rfl ?_
                refine o_getI (u := (tH L t p)) lk_X4_159 rfl (rfl : SH 110 = _) hK.2.2.2.2.1 dX4_play_81 ?_
                refine v_bipush dX4_play_84 (by decide) ?_
                have jn94 : ∀ z : Int, z = bP (tH L t p = 100) → vO x Q G cX4_play RX4 94 [some (aR (some 110)), some (aI (c : Int)), some (aI (bP ((pA L t p).1 = true))), c3] [aI z, aI (((tH L t (p + 1) - 48).toNat : Nat) : Int), aR (some 110)] N := by
                  intro z hz
                  subst hz
                  refine oVq2 4 (c_X4_draws (s := (tH L t (p + 1) - 48).toNat) hLN hwN hIw (by omega) (bP_R _)) k0_X4_draws ki_X4_draws ml_X4_99 (rfl : SH 110 = _) (by decide) (vRo_of hxR (by decide) (by decide)) dX4_play_94 (Nat.le_of_ble_eq_true rfl) (fun N hN => ?_)
                  obtain ⟨hF2, hv2⟩ := hN
                  refine v_goto 126 dX4_play_97 (by decide) ?_
                  first | exact jn126 _ _ (hJ.step hK hF2 (by decide) (by decide)) (by rw [hv2, pE, if_pos g43]) | exact jn126 _ _ (hJ.step hK hF2 (by decide) (by decide)) (by rw [hv2, pE, if_neg (by omega), if_pos (by omega)]) | exact jn126 _ _ (hJ.step hK hF2 (by decide) (by decide)) (by rw [hv2, pE, if_neg (by omega), if_neg (by omega)])
                refine v_icmp_ne 93 dX4_play_86 (by decide) (by omega) (by decide) (fun h86 => ?_) (fun h86 => ?_)
                · skip
                  refine v_iconst dX4_play_93 ?_
                  first | exact jn94 _ (bP_f h86).symm | exact jn94 _ (bP_t h86).symm
                · skip
                  refine v_iconst dX4_play_89 ?_
                  refine v_goto 94 dX4_play_90 (by decide) ?_
                  first | exact jn94 _ (bP_f h86).symm | exact jn94 _ (bP_t h86).symm
          · skip
            have g43 : tH L t p = 116 := by omega
            refine v_aload_n 0 dX4_play_46 rfl rfl ?_
            refine v_aload_n 0 dX4_play_47 rfl rfl ?_
            refine o_getI (u := (((pNv L t (p + 1)).toNat : Nat) : Int)) lk_X4_156 rfl (rfl : SH 110 = _) (by rw [hK.2.2.2.2.2.2, hfn.2.2 g43]; omega) dX4_play_48 ?_
            refine oVq1 4 (c_X4_passes (n := (pNv L t (p + 1)).toNat) hLN hwN hIw (by omega)) k0_X4_passes ki_X4_passes ml_X4_137 (rfl : SH 110 = _) (by decide) (vRo_of hxR (by decide) (by decide)) dX4_play_51 (Nat.le_of_ble_eq_true rfl) (fun N hN => ?_)
            obtain ⟨hF2, hv2⟩ := hN
            refine v_goto 126 dX4_play_54 (by decide) ?_
            first | exact jn126 _ _ (hJ.step hK hF2 (by decide) (by decide)) (by rw [hv2, pE, if_pos g43]) | exact jn126 _ _ (hJ.step hK hF2 (by decide) (by decide)) (by rw [hv2, pE, if_neg (by omega), if_pos (by omega)]) | exact jn126 _ _ (hJ.step hK hF2 (by decide) (by decide)) (by rw [hv2, pE, if_neg (by omega), if_neg (by omega)])
    exact lp21 80 0 0 v K _ _ (by omega) (by decide) (by decide) g hI hJ hvK (by rw [Nat.add_zero])
  · skip
    have g := bP_0.mp h4
    refine v_ldc (-1000003) kc_X4_178 (by decide) dX4_play_7 ?_
    refine o_iret hQ hlk hrt dX4_play_9 ?_
    exact .inr ⟨g, rfl, _, _, _, _, hK⟩
