/-! ===== a tick ===== -/
def sup (v : Sg) (j : Nat) (z : Int) : Sg := fun t => if t = j then z else v t
theorem sup_eq (v : Sg) (j : Nat) (z : Int) : sup v j z j = z := if_pos rfl
theorem sup_ne (v : Sg) {j t : Nat} (z : Int) (h : t ≠ j) : sup v j z t = v t := if_neg h
def sBeg (v : Sg) : Sg := if v 22 = 0 ∧ v 0 < v 6 then sup (sup (sup (sup (sup (sup v (18 + (v 17).toNat) (v (18 + (v 17).toNat) + 1)) 17 (1 - v 17)) 23 (v 7)) 20 (v 7)) 21 (v 8)) 22 (v 8) else v
def sPart (v : Sg) : Int := if v 22 = 1 then v 20 else v 23 / v 21
def sOver (v : Sg) : Int := max 0 (v 0 + sPart v - v 5)
def sMak (v : Sg) : Sg := if 0 < v 22 then sup (sup (sup (sup (sup (sup v 22 (v 22 - 1)) 20 (v 20 - sPart v)) 14 (v 14 + sPart v)) 0 (v 0 + sPart v)) 16 (v 16 + sOver v)) 0 (v 0 + sPart v - sOver v) else v
def sPmp (v : Sg) : Sg := sMak (sBeg v)
abbrev sLn (w : Sg) (p : Nat) : Int := sLf w (sDrw w) true p
def sFl (w : Sg) (p : Nat) : Sg := fun i => if i = 0 then sLn w p else if i = 15 then w 15 + (w 0 - sLn w p) else if 24 ≤ i ∧ i < 64 ∧ (i - 24) % 5 = 4 then w i + (sLn w (min p (24 * ((i - 24) / 5))) - sLn w (min p (24 * ((i - 24) / 5 + 1)))) else w i
def sTick (v : Sg) : Sg := sup (sFl (sPmp v) 192) 13 (sPmp v 13 + 1)
def sTks (v : Sg) : Nat → Sg
  | 0 => v
  | n + 1 => sTick (sTks v n)
/-- indexes that a tick leaves -/
def sK (i : Nat) : Prop := (1 ≤ i ∧ i ≤ 12) ∨ (24 ≤ i ∧ i < 64 ∧ (i - 24) % 5 ≠ 4) ∨ 64 ≤ i
def sSame (v w : Sg) : Prop := ∀ i, sK i → w i = v i
theorem sSame.rf (v : Sg) : sSame v v := fun _ _ => rfl
theorem sSame.tr {u v w : Sg} (h : sSame u v) (h2 : sSame v w) : sSame u w := fun i hi => (h2 i hi).trans (h i hi)
theorem sSame.up {u v : Sg} (h : sSame u v) {j : Nat} (z : Int) (hj : ¬ sK j) : sSame u (sup v j z) := fun i hi => by
  rw [sup_ne _ _ (fun e => hj (by rw [← e]; exact hi))]
  exact h i hi
theorem sK_st {s t : Nat} (hs : s < 8) (ht : t < 4) : sK (24 + 5 * s + t) := by unfold sK; omega
def sBel (v : Sg) : Prop := (0 ≤ v 0 ∧ v 0 ≤ 20000) ∧ (0 ≤ v 17 ∧ v 17 ≤ 1) ∧ (0 ≤ v 22 ∧ v 22 ≤ 8) ∧ (0 ≤ v 20 ∧ v 20 ≤ 500) ∧ (0 < v 22 → 1 ≤ v 21 ∧ v 21 ≤ 8 ∧ 0 ≤ v 23 ∧ v 23 ≤ 500 ∧ v 22 * (v 23 / v 21) ≤ v 20)
theorem sCi_same {v w : Sg} (e : sSame v w) : ∀ s, s ≤ 8 → sCi w s = sCi v s
  | 0, _ => rfl
  | s + 1, hs => by rw [sCi, sCi, sCi_same e s (by omega), e (256 + s) (by unfold sK; omega)]
theorem sInv.same {v w : Sg} (h : sInv v) (e : sSame v w) (hb : sBel w) : sInv w := by
  obtain ⟨h1, h2, h3, h4, h5, -⟩ := h
  have ek : ∀ i, 1 ≤ i → i ≤ 12 → w i = v i := fun i a b => e i (Or.inl ⟨a, b⟩)
  refine ⟨fun s hs => ?_, ?_, fun p hp => ?_, ?_, ?_, hb⟩
  · rw [e (24 + 5 * s) (sK_st hs (t := 0) (by decide)), e (24 + 5 * s + 1) (sK_st hs (by decide)), e (24 + 5 * s + 2) (sK_st hs (by decide)), e (24 + 5 * s + 3) (sK_st hs (by decide)), e (256 + s) (by unfold sK; omega)]
    exact h1 s hs
  · rw [sCi_same e 8 (Nat.le_refl _)]
    exact h2
  · rw [e (64 + p) (by unfold sK; omega)]
    exact h3 p hp
  · rw [ek 1 (by decide) (by decide), ek 2 (by decide) (by decide), ek 3 (by decide) (by decide), ek 4 (by decide) (by decide), ek 5 (by decide) (by decide), ek 6 (by decide) (by decide), ek 7 (by decide) (by decide), ek 8 (by decide) (by decide), ek 9 (by decide) (by decide)]
    exact h4
  · rw [ek 10 (by decide) (by decide), ek 11 (by decide) (by decide), ek 12 (by decide) (by decide)]
    exact h5
theorem sBeg_same (v : Sg) (h : sInv v) : sSame v (sBeg v) := by
  have hb := (iv_bel h).2.1
  unfold sBeg
  split
  · exact ((((((sSame.rf v).up _ (by unfold sK; omega)).up _ (by unfold sK; omega)).up _ (by unfold sK; omega)).up _ (by unfold sK; omega)).up _ (by unfold sK; omega)).up _ (by unfold sK; omega)
  · exact sSame.rf v
theorem sBeg_bel {v : Sg} (h : sInv v) : sBel (sBeg v) := by
  have hb := iv_bel h
  have hs := iv_set h
  unfold sBeg
  split
  · rename_i hc
    have e0 : ∀ t z, t = 0 ∨ t = 17 ∨ t = 20 ∨ t = 21 ∨ t = 22 ∨ t = 23 → sup v (18 + (v 17).toNat) z t = v t := fun t z ht => sup_ne _ _ (by omega)
    have hq : v 8 * (v 7 / v 8) ≤ v 7 := Int.mul_ediv_self_le (by omega)
    refine ⟨?_, ?_, ?_, ?_, fun _ => ?_⟩
    · rw [sup_ne _ _ (by decide), sup_ne _ _ (by decide), sup_ne _ _ (by decide), sup_ne _ _ (by decide), sup_ne _ _ (by decide), e0 0 _ (Or.inl rfl)]
      exact hb.1
    · rw [sup_ne _ _ (by decide), sup_ne _ _ (by decide), sup_ne _ _ (by decide), sup_ne _ _ (by decide), sup_eq]
      omega
    · rw [sup_eq]
      omega
    · rw [sup_ne _ _ (by decide), sup_ne _ _ (by decide), sup_eq]
      omega
    · simp only [sup]
      simp
      omega
  · exact hb
theorem sBeg_inv {v : Sg} (h : sInv v) : sInv (sBeg v) := h.same (sBeg_same v h) (sBeg_bel h)
theorem sPart_b {v : Sg} (h : sInv v) (h0 : 0 < v 22) : 0 ≤ sPart v ∧ sPart v ≤ v 20 ∧ (v 22 ≠ 1 → (v 22 - 1) * (v 23 / v 21) ≤ v 20 - sPart v) := by
  obtain ⟨-, -, h1, h2, h3⟩ := iv_bel h
  obtain ⟨a1, a2, a3, a4, a5⟩ := h3 h0
  unfold sPart
  have hq : 0 ≤ v 23 / v 21 := Int.ediv_nonneg a3 (by omega)
  split
  · rename_i hc
    exact ⟨h2.1, Int.le_refl _, fun q => absurd hc q⟩
  · have hm : (v 22 - 1) * (v 23 / v 21) = v 22 * (v 23 / v 21) - v 23 / v 21 := by rw [Int.sub_mul, Int.one_mul]
    have hp : 0 ≤ (v 22 - 1) * (v 23 / v 21) := Int.mul_nonneg (by omega) hq
    refine ⟨hq, by omega, fun _ => by omega⟩
theorem sMak_same (v : Sg) : sSame v (sMak v) := by
  unfold sMak
  split
  · exact ((((((sSame.rf v).up _ (by unfold sK; omega)).up _ (by unfold sK; omega)).up _ (by unfold sK; omega)).up _ (by unfold sK; omega)).up _ (by unfold sK; omega)).up _ (by unfold sK; omega)
  · exact sSame.rf v
theorem sMak_bel {v : Sg} (h : sInv v) : sBel (sMak v) := by
  have hb := iv_bel h
  have hs := iv_set h
  unfold sMak
  split
  · rename_i hc
    have hp := sPart_b h hc
    obtain ⟨b1, b2, h1, h2, h3⟩ := hb
    obtain ⟨a1, a2, a3, a4, a5⟩ := h3 hc
    have ho : sOver v = max 0 (v 0 + sPart v - v 5) := rfl
    refine ⟨?_, ?_, ?_, ?_, fun q => ?_⟩
    · rw [sup_eq]
      omega
    · simp only [sup]
      simp
      exact b2
    · simp only [sup]
      simp
      omega
    · simp only [sup]
      simp
      omega
    · simp only [sup] at q ⊢
      simp at q ⊢
      have := hp.2.2 (by omega)
      exact ⟨a1, a2, a3, a4, this⟩
  · exact hb
theorem sMak_inv {v : Sg} (h : sInv v) : sInv (sMak v) := h.same (sMak_same v) (sMak_bel h)
theorem sPmp_inv {v : Sg} (h : sInv v) : sInv (sPmp v) := sMak_inv (sBeg_inv h)
theorem sPmp_same {v : Sg} (h : sInv v) : sSame v (sPmp v) := (sBeg_same v h).tr (sMak_same _)
theorem sFl_same (w : Sg) (p : Nat) : sSame w (sFl w p) := fun i hi => by
  unfold sK at hi
  rw [sFl, if_neg (by omega), if_neg (by omega), if_neg (by omega)]
theorem sTick_same {v : Sg} (h : sInv v) : sSame v (sTick v) := ((sPmp_same h).tr (sFl_same _ 192)).up _ (by unfold sK; omega)
theorem sTick_inv {v : Sg} (h : sInv v) : sInv (sTick v) := by
  have hw := sPmp_inv h
  have hb := iv_bel hw
  have hl : 0 ≤ sLn (sPmp v) 192 ∧ sLn (sPmp v) 192 ≤ sPmp v 0 := sLf_b hw (sDrw (sPmp v)) true 192 (Nat.le_refl _)
  refine h.same (sTick_same h) ?_
  have e : ∀ i, i = 17 ∨ i = 20 ∨ i = 21 ∨ i = 22 ∨ i = 23 → sTick v i = sPmp v i := fun i hi => by
    rw [sTick, sup_ne _ _ (by omega), sFl, if_neg (by omega), if_neg (by omega), if_neg (by omega)]
  have e0 : sTick v 0 = sLn (sPmp v) 192 := by
    rw [sTick, sup_ne _ _ (by omega), sFl, if_pos rfl]
  refine ⟨?_, ?_, ?_, ?_, ?_⟩
  · rw [e0]
    exact ⟨hl.1, by omega⟩
  · rw [e 17 (by simp)]
    exact hb.2.1
  · rw [e 22 (by simp)]
    exact hb.2.2.1
  · rw [e 20 (by simp)]
    exact hb.2.2.2.1
  · rw [e 20 (by simp), e 21 (by simp), e 22 (by simp), e 23 (by simp)]
    exact hb.2.2.2.2
theorem sTks_inv {v : Sg} (h : sInv v) : ∀ n, sInv (sTks v n)
  | 0 => h
  | n + 1 => sTick_inv (sTks_inv h n)
theorem sFl_0 (w : Sg) : sFl w 0 = w := by
  funext i
  rw [sFl]
  split
  · subst_vars; rfl
  · split
    · subst_vars
      show w 15 + (w 0 - w 0) = _
      omega
    · split
      · rw [Nat.zero_min, Nat.zero_min]; omega
      · rfl
theorem sFl_step (w : Sg) {p : Nat} (hp : p < 192) : sup (sup (sup (sFl w p) (24 + 5 * (p / 24) + 4) (sFl w p (24 + 5 * (p / 24) + 4) + sGt w (sDrw w) true p)) 15 (sFl w p 15 + sGt w (sDrw w) true p)) 0 (sFl w p 0 - sGt w (sDrw w) true p) = sFl w (p + 1) := by
  have hl : sLn w (p + 1) = sLn w p - sGt w (sDrw w) true p := rfl
  funext i
  by_cases h0 : i = 0
  · subst h0
    rw [sup_eq, sFl, if_pos rfl, sFl, if_pos rfl, hl]
  · rw [sup_ne _ _ h0]
    by_cases h15 : i = 15
    · subst h15
      rw [sup_eq, sFl, if_neg h0, if_pos rfl, sFl, if_neg h0, if_pos rfl, hl]
      omega
    · rw [sup_ne _ _ h15]
      by_cases hs : i = 24 + 5 * (p / 24) + 4
      · subst hs
        rw [sup_eq, sFl, if_neg h0, if_neg h15, if_pos (by omega), sFl, if_neg h0, if_neg h15, if_pos (by omega)]
        have e1 : (24 + 5 * (p / 24) + 4 - 24) / 5 = p / 24 := by omega
        rw [e1, Nat.min_eq_right (show 24 * (p / 24) ≤ p by omega), Nat.min_eq_right (show 24 * (p / 24) ≤ p + 1 by omega), Nat.min_eq_left (show p ≤ 24 * (p / 24 + 1) by omega), Nat.min_eq_left (show p + 1 ≤ 24 * (p / 24 + 1) by omega), hl]
        omega
      · rw [sup_ne _ _ hs, sFl, if_neg h0, if_neg h15, sFl, if_neg h0, if_neg h15]
        by_cases hc : 24 ≤ i ∧ i < 64 ∧ (i - 24) % 5 = 4
        · rw [if_pos hc, if_pos hc]
          by_cases hlt : (i - 24) / 5 < p / 24
          · rw [Nat.min_eq_right (show 24 * ((i - 24) / 5) ≤ p by omega), Nat.min_eq_right (show 24 * ((i - 24) / 5) ≤ p + 1 by omega), Nat.min_eq_right (show 24 * ((i - 24) / 5 + 1) ≤ p by omega), Nat.min_eq_right (show 24 * ((i - 24) / 5 + 1) ≤ p + 1 by omega)]
          · rw [Nat.min_eq_left (show p ≤ 24 * ((i - 24) / 5) by omega), Nat.min_eq_left (show p ≤ 24 * ((i - 24) / 5 + 1) by omega), Nat.min_eq_left (show p + 1 ≤ 24 * ((i - 24) / 5) by omega), Nat.min_eq_left (show p + 1 ≤ 24 * ((i - 24) / 5 + 1) by omega)]
            omega
        · rw [if_neg hc, if_neg hc]
theorem fr_gw {L : List Nat} {M0 K : Mem} {w : Sg} (hF : fr L M0 K) (hL : 111 ∈ L) (hv : K.1 111 = w) (j : Nat) (z : Int) : fr L M0 (vup K.1 111 j z, K.2) ∧ (vup K.1 111 j z, K.2).1 111 = sup w j z := by
  refine ⟨fr_up hF hL j z, ?_⟩
  funext t
  show vup K.1 111 j z 111 t = _
  rw [vup_in, sup, hv]
