/-! ===== the twin: reading the text ===== -/
/-- the letter at p of t letters, -1 behind them -/
def tH (L : Nat → Int) (t p : Nat) : Int := if p < t then L p else -1
abbrev tD (L : Nat → Int) (t p : Nat) : Prop := 48 ≤ tH L t p ∧ tH L t p ≤ 57
def pDg (L : Nat → Int) (t p : Nat) : Nat → Int
  | 0 => 0
  | j + 1 => 10 * pDg L t p j + (tH L t (p + j) - 48)
def pNx (L : Nat → Int) (t p : Nat) : Nat → Nat → Nat
  | 0, j => j
  | n + 1, j => if tD L t (p + j) then pNx L t p n (j + 1) else j
def pNl (L : Nat → Int) (t p : Nat) : Nat := if tD L t p then (if tH L t p = 48 then 1 else pNx L t p 2 1) else 0
def pNv (L : Nat → Int) (t p : Nat) : Int := pDg L t p (pNl L t p)
abbrev pOk (L : Nat → Int) (t p : Nat) (lo hi : Int) : Prop := tD L t p ∧ lo ≤ pNv L t p ∧ pNv L t p ≤ hi
def pA (L : Nat → Int) (t p : Nat) : Bool × Nat :=
  if tH L t p = 100 ∨ tH L t p = 114 then (if 0 ≤ tH L t (p + 1) - 48 ∧ tH L t (p + 1) - 48 ≤ 7 then (true, p + 2) else (false, p + 1))
  else if tH L t p = 112 ∨ tH L t p = 108 then (if 0 ≤ tH L t (p + 1) - 48 ∧ tH L t (p + 1) - 48 ≤ 1 then (if pOk L t (p + 2) 0 23 then (if tH L t (p + 2 + pNl L t (p + 2)) = 59 then (true, p + 2 + pNl L t (p + 2) + 1) else (false, p + 2 + pNl L t (p + 2))) else (false, p + 2)) else (false, p + 1))
  else if tH L t p = 116 then (if pOk L t (p + 1) 1 200 then (if tH L t (p + 1 + pNl L t (p + 1)) = 59 then (true, p + 1 + pNl L t (p + 1) + 1) else (false, p + 1 + pNl L t (p + 1))) else (false, p + 1))
  else (false, p)
/-- the letters of the text are such as append takes -/
def pLt (L : Nat → Int) (t : Nat) : Prop := t ≤ 80 ∧ ∀ k, k < t → 0 ≤ L k ∧ L k ≤ 127
theorem tH_b {L : Nat → Int} {t : Nat} (h : pLt L t) (p : Nat) : -1 ≤ tH L t p ∧ tH L t p ≤ 127 := by
  unfold tH
  split
  · have := h.2 p (by assumption); omega
  · omega
theorem pDg_b {L : Nat → Int} {t p : Nat} : ∀ j, (∀ i, i < j → tD L t (p + i)) → 0 ≤ pDg L t p j ∧ pDg L t p j < 10 ^ j
  | 0, _ => by show (0 : Int) ≤ 0 ∧ (0 : Int) < 10 ^ 0; decide
  | j + 1, h => by
    have h1 := pDg_b (L := L) (t := t) (p := p) j (fun i hi => h i (by omega))
    have h2 := h j (by omega)
    rw [pDg, Int.pow_succ]
    omega
theorem pNx_d {L : Nat → Int} {t p : Nat} : ∀ n j, (∀ i, i < j → tD L t (p + i)) → (j ≤ pNx L t p n j ∧ pNx L t p n j ≤ j + n) ∧ ∀ i, i < pNx L t p n j → tD L t (p + i)
  | 0, j, h => ⟨⟨Nat.le_refl _, Nat.le_refl _⟩, h⟩
  | n + 1, j, h => by
    rw [pNx]
    split
    · rename_i hd
      have := pNx_d n (j + 1) (fun i hi => by
        by_cases e : i = j
        · rw [e]; exact hd
        · exact h i (by omega))
      exact ⟨by omega, this.2⟩
    · exact ⟨by omega, h⟩
theorem pNl_d {L : Nat → Int} {t p : Nat} (h : tD L t p) : (1 ≤ pNl L t p ∧ pNl L t p ≤ 3) ∧ ∀ i, i < pNl L t p → tD L t (p + i) := by
  have h0 : ∀ i, i < 1 → tD L t (p + i) := fun i hi => by rw [show i = 0 by omega]; exact h
  rw [pNl, if_pos h]
  split
  · exact ⟨by omega, h0⟩
  · have := pNx_d (L := L) (t := t) (p := p) 2 1 h0
    exact ⟨by omega, this.2⟩
theorem pNl_0 {L : Nat → Int} {t p : Nat} (h : tH L t p - 48 = 0) : pNl L t p = 1 ∧ pNv L t p = tH L t p - 48 := by
  have e : pNl L t p = 1 := by rw [pNl, if_pos (by unfold tD; omega), if_pos (by omega)]
  rw [pNv, e, pDg, pDg]
  exact ⟨rfl, by rw [Nat.add_zero]; omega⟩
theorem pNv_b {L : Nat → Int} {t p : Nat} (h : tD L t p) : 0 ≤ pNv L t p ∧ pNv L t p ≤ 999 := by
  have h1 := pNl_d h
  have h2 := pDg_b (L := L) (t := t) (p := p) (pNl L t p) h1.2
  rw [pNv]
  rcases (show pNl L t p = 1 ∨ pNl L t p = 2 ∨ pNl L t p = 3 by omega) with e | e | e <;> rw [e] at h2 ⊢ <;> omega
/-- what is read changes four fields of the twin: place, act, first, number -/
def tK (M0 K : Mem) (p : Nat) (a f n : Int) : Prop := K.2 = M0.2 ∧ (∀ i, i ≠ 110 → K.1 i = M0.1 i) ∧ (∀ k, k < 17 → K.1 110 k = M0.1 110 k) ∧ K.1 110 17 = (p : Int) ∧ K.1 110 18 = a ∧ K.1 110 19 = f ∧ K.1 110 20 = n
theorem tK.lay {M0 K : Mem} {p : Nat} {a f n : Int} (h : tK M0 K p a f n) (hl : LayM M0.2) : LayM K.2 := by rw [h.1]; exact hl
theorem tK.pl {M0 K : Mem} {p : Nat} {a f n z : Int} (h : tK M0 K p a f n) {p' : Nat} (e : z = (p' : Int)) : tK M0 (vup K.1 110 17 z, K.2) p' a f n := by
  obtain ⟨h1, h2, h3, h4, h5, h6, h7⟩ := h
  refine ⟨h1, fun i hi => ?_, fun k hk => ?_, ?_, ?_, ?_, ?_⟩ <;> dsimp only
  · funext b; rw [vup_o (by omega), h2 i hi]
  · rw [vup_o (by omega)]; exact h3 k hk
  · rw [vup_s]; exact e
  · rw [vup_o (by omega)]; exact h5
  · rw [vup_o (by omega)]; exact h6
  · rw [vup_o (by omega)]; exact h7
theorem tK.ac {M0 K : Mem} {p : Nat} {a f n : Int} (h : tK M0 K p a f n) (z : Int) : tK M0 (vup K.1 110 18 z, K.2) p z f n := by
  obtain ⟨h1, h2, h3, h4, h5, h6, h7⟩ := h
  refine ⟨h1, fun i hi => ?_, fun k hk => ?_, ?_, ?_, ?_, ?_⟩ <;> dsimp only
  · funext b; rw [vup_o (by omega), h2 i hi]
  · rw [vup_o (by omega)]; exact h3 k hk
  · rw [vup_o (by omega)]; exact h4
  · rw [vup_s]
  · rw [vup_o (by omega)]; exact h6
  · rw [vup_o (by omega)]; exact h7
theorem tK.fi {M0 K : Mem} {p : Nat} {a f n : Int} (h : tK M0 K p a f n) (z : Int) : tK M0 (vup K.1 110 19 z, K.2) p a z n := by
  obtain ⟨h1, h2, h3, h4, h5, h6, h7⟩ := h
  refine ⟨h1, fun i hi => ?_, fun k hk => ?_, ?_, ?_, ?_, ?_⟩ <;> dsimp only
  · funext b; rw [vup_o (by omega), h2 i hi]
  · rw [vup_o (by omega)]; exact h3 k hk
  · rw [vup_o (by omega)]; exact h4
  · rw [vup_o (by omega)]; exact h5
  · rw [vup_s]
  · rw [vup_o (by omega)]; exact h7
theorem tK.nu {M0 K : Mem} {p : Nat} {a f n : Int} (h : tK M0 K p a f n) (z : Int) : tK M0 (vup K.1 110 20 z, K.2) p a f z := by
  obtain ⟨h1, h2, h3, h4, h5, h6, h7⟩ := h
  refine ⟨h1, fun i hi => ?_, fun k hk => ?_, ?_, ?_, ?_, ?_⟩ <;> dsimp only
  · funext b; rw [vup_o (by omega), h2 i hi]
  · rw [vup_o (by omega)]; exact h3 k hk
  · rw [vup_o (by omega)]; exact h4
  · rw [vup_o (by omega)]; exact h5
  · rw [vup_o (by omega)]; exact h6
  · rw [vup_s]
section OT
variable {x : vXX} {Q : State → Prop} {G : vGG} {cc : ByteArray} {own : String} {pc : Nat} {ls : List (Option AV)} {st : List AV} {M0 M : Mem} {p : Nat} {a f n : Int}
theorem o_tK (hK : tK M0 M p a f n) (kk : ∀ K : Mem, tK M0 K p a f n → vO x Q G cc own pc ls st K) : vO x Q G cc own pc ls st M := kk M hK
end OT
set_option maxRecDepth 100000 in
set_option maxHeartbeats 400000 in
theorem c_X4_here {l : Launch} {G : vGG} {M0 M : Mem} {L : Nat → Int} {t p : Nat} {a f n : Int} (hL0 : LayM M0.2) (hL : M0.1 116 = L) (ht : M0.1 110 7 = (t : Int)) (hB : pLt L t) (hK : tK M0 M p a f n) (hp : p ≤ 1000) : Cv l yX4_here cX4_here 1 (some .int) (rmo 0 0) G [aR (some 110)] M (some (aI (tH L t p))) M := by
  refine Co.ofV (plainFor_of_name (by decide)) rfl rfl ?_
  intro x hxl hxR hlk hrt Q hQ
  have hLM := hK.lay hL0
  have ht80 := hB.1
  have h7 : M.1 110 7 = (t : Int) := (hK.2.2.1 7 (by decide)).trans ht
  have h17 := hK.2.2.2.1
  have hLL : M.1 116 = L := (hK.2.1 116 (by decide)).trans hL
  have hHb := tH_b hB p
  show vO x Q G cX4_here RX4 0 [some (aR (some 110))] [] M
  refine v_aload_n 0 dX4_here_0 rfl rfl ?_
  refine o_getI (u := (p : Int)) lk_X4_143 rfl (rfl : SH 110 = _) h17 dX4_here_1 ?_
  refine v_aload_n 0 dX4_here_4 rfl rfl ?_
  refine o_getI (u := (t : Int)) lk_X4_140 rfl (rfl : SH 110 = _) h7 dX4_here_5 ?_
  refine v_icmp_ge 23 dX4_here_8 (by decide) (by omega) (by omega) (fun h8 => ?_) (fun h8 => ?_)
  · skip
    refine v_iconst dX4_here_23 ?_
    refine o_iret hQ hlk hrt dX4_here_24 ?_
    first | exact ⟨by unfold tH; rw [if_pos (show p < t by omega)], rfl⟩ | exact ⟨by unfold tH; rw [if_neg (show ¬ p < t by omega)], rfl⟩
  · skip
    refine v_aload_n 0 dX4_here_11 rfl rfl ?_
    refine v_getR lk_X4_26 rfl (rfl : SH 110 = _) (mo_6 hLM) dX4_here_12 ?_
    refine v_aload_n 0 dX4_here_15 rfl rfl ?_
    refine o_getI (u := (p : Int)) lk_X4_143 rfl (rfl : SH 110 = _) h17 dX4_here_16 ?_
    refine o_iald (j := p) (u := L (p)) (rfl : SH 116 = _) (by omega) (by omega) (by rw [hLL]) dX4_here_19 ?_
    refine v_goto 24 dX4_here_20 (by decide) ?_
    refine o_iret hQ hlk hrt dX4_here_24 ?_
    first | exact ⟨by unfold tH; rw [if_pos (show p < t by omega)], rfl⟩ | exact ⟨by unfold tH; rw [if_neg (show ¬ p < t by omega)], rfl⟩
set_option maxRecDepth 100000 in
set_option maxHeartbeats 400000 in
theorem c_X4_takes {l : Launch} {G : vGG} {M0 M : Mem} {L : Nat → Int} {t p : Nat} {a f n : Int} (hL0 : LayM M0.2) (hL : M0.1 116 = L) (ht : M0.1 110 7 = (t : Int)) (hB : pLt L t) (hK : tK M0 M p a f n) (hp : p ≤ 1000) {c : Int} (hc : R32 c) : Co l yX4_takes cX4_takes 3 (some .boolean) (rmo 1 20) G [aR (some 110), aI c] M (fun r M' => r = some (aI (bP (tH L t p = c))) ∧ tK M0 M' (if tH L t p = c then p + 1 else p) (a) (f) (n)) := by
  refine Co.ofV (plainFor_of_name (by decide)) rfl rfl ?_
  intro x hxl hxR hlk hrt Q hQ
  have hLM := hK.lay hL0
  have ht80 := hB.1
  have h7 : M.1 110 7 = (t : Int) := (hK.2.2.1 7 (by decide)).trans ht
  have h17 := hK.2.2.2.1
  have hLL : M.1 116 = L := (hK.2.1 116 (by decide)).trans hL
  have hHb := tH_b hB p
  show vO x Q G cX4_takes RX4 0 [some (aR (some 110)), some (aI c), none] [] M
  refine v_aload_n 0 dX4_takes_0 rfl rfl ?_
  refine oVv0 4 (c_X4_here hL0 hL ht hB hK (by omega)) k0_X4_here ki_X4_here ml_X4_146 (rfl : SH 110 = _) (by decide) (vRo_of hxR (by decide) (by decide)) dX4_takes_1 (Nat.le_of_ble_eq_true rfl) ?_
  refine v_iload_n 1 dX4_takes_4 rfl rfl ?_
  have jn13 : ∀ z : Int, z = bP (tH L t p = c) → vO x Q G cX4_takes RX4 13 [some (aR (some 110)), some (aI c), none] [aI z] M := by
    intro z hz
    subst hz
    refine v_ist2 dX4_takes_13 rfl ?_
    refine v_aload_n 0 dX4_takes_14 rfl rfl ?_
    refine v_dup dX4_takes_15 rfl ?_
    refine o_getI (u := (p : Int)) lk_X4_143 rfl (rfl : SH 110 = _) h17 dX4_takes_16 ?_
    refine v_iload_n 2 dX4_takes_19 rfl rfl ?_
    refine v_if_eq 27 dX4_takes_20 (by decide) (bP_R _) (fun h20 => ?_) (fun h20 => ?_)
    · skip
      have g := bP_0.mp h20
      refine v_iconst dX4_takes_27 ?_
      refine v_iadd dX4_takes_28 ?_
      refine v_putI lp_X4_143 rfl rfl (rfl : SH 110 = _) dX4_takes_29 ?_
      refine v_iload_n 2 dX4_takes_32 rfl rfl ?_
      refine o_zret hQ hlk hrt (bP_01 _) dX4_takes_33 ?_
      exact ⟨rfl, hK.pl (by first | (rw [if_pos g]; omega) | (rw [if_neg g]; omega))⟩
    · skip
      have g := bP_n0.mp h20
      refine v_iconst dX4_takes_23 ?_
      refine v_goto 28 dX4_takes_24 (by decide) ?_
      refine v_iadd dX4_takes_28 ?_
      refine v_putI lp_X4_143 rfl rfl (rfl : SH 110 = _) dX4_takes_29 ?_
      refine v_iload_n 2 dX4_takes_32 rfl rfl ?_
      refine o_zret hQ hlk hrt (bP_01 _) dX4_takes_33 ?_
      exact ⟨rfl, hK.pl (by first | (rw [if_pos g]; omega) | (rw [if_neg g]; omega))⟩
  refine v_icmp_ne 12 dX4_takes_5 (by decide) (by omega) hc (fun h5 => ?_) (fun h5 => ?_)
  · skip
    refine v_iconst dX4_takes_12 ?_
    first | exact jn13 _ (bP_f h5).symm | exact jn13 _ (bP_t h5).symm
  · skip
    refine v_iconst dX4_takes_8 ?_
    refine v_goto 13 dX4_takes_9 (by decide) ?_
    first | exact jn13 _ (bP_f h5).symm | exact jn13 _ (bP_t h5).symm
set_option maxRecDepth 100000 in
set_option maxHeartbeats 400000 in
theorem c_X4_isDigit {l : Launch} {G : vGG} {M0 M : Mem} {L : Nat → Int} {t p : Nat} {a f n : Int} (hL0 : LayM M0.2) (hL : M0.1 116 = L) (ht : M0.1 110 7 = (t : Int)) (hB : pLt L t) (hK : tK M0 M p a f n) (hp : p ≤ 1000) : Cv l yX4_isDigit cX4_isDigit 1 (some .boolean) (rmo 1 22) G [aR (some 110)] M (some (aI (bP (tD L t p)))) M := by
  refine Co.ofV (plainFor_of_name (by decide)) rfl rfl ?_
  intro x hxl hxR hlk hrt Q hQ
  have hLM := hK.lay hL0
  have ht80 := hB.1
  have h7 : M.1 110 7 = (t : Int) := (hK.2.2.1 7 (by decide)).trans ht
  have h17 := hK.2.2.2.1
  have hLL : M.1 116 = L := (hK.2.1 116 (by decide)).trans hL
  have hHb := tH_b hB p
  show vO x Q G cX4_isDigit RX4 0 [some (aR (some 110))] [] M
  refine v_aload_n 0 dX4_isDigit_0 rfl rfl ?_
  refine oVv0 4 (c_X4_here hL0 hL ht hB hK (by omega)) k0_X4_here ki_X4_here ml_X4_146 (rfl : SH 110 = _) (by decide) (vRo_of hxR (by decide) (by decide)) dX4_isDigit_1 (Nat.le_of_ble_eq_true rfl) ?_
  refine v_bipush dX4_isDigit_4 (by decide) ?_
  refine v_bipush dX4_isDigit_6 (by decide) ?_
  refine oSv3 (c_X4_in (by omega) (by decide) (by decide)) k0_X4_in ki_X4_in ml_X4_59 (vRo_of hxR (by decide) (by decide)) dX4_isDigit_8 (Nat.le_of_ble_eq_true rfl) ?_
  refine o_zret hQ hlk hrt (bP_01 _) dX4_isDigit_11 ?_
  exact ⟨rfl, rfl⟩
set_option maxRecDepth 100000 in
set_option maxHeartbeats 400000 in
theorem c_X4_isFirst {l : Launch} {G : vGG} {M0 M : Mem} {L : Nat → Int} {t p : Nat} {a f n : Int} (hL0 : LayM M0.2) (hL : M0.1 116 = L) (ht : M0.1 110 7 = (t : Int)) (hB : pLt L t) (hK : tK M0 M p a f n) (hp : p ≤ 1000) {c : Int} (hc : R32 c) : Co l yX4_isFirst cX4_isFirst 3 (some .boolean) (rmo 1 22) G [aR (some 110), aI c] M (fun r M' => r = some (aI (bP (0 ≤ tH L t p - 48 ∧ tH L t p - 48 ≤ c))) ∧ tK M0 M' (if 0 ≤ tH L t p - 48 ∧ tH L t p - 48 ≤ c then p + 1 else p) (a) (tH L t p - 48) (n)) := by
  refine Co.ofV (plainFor_of_name (by decide)) rfl rfl ?_
  intro x hxl hxR hlk hrt Q hQ
  have hLM := hK.lay hL0
  have ht80 := hB.1
  have h7 : M.1 110 7 = (t : Int) := (hK.2.2.1 7 (by decide)).trans ht
  have h17 := hK.2.2.2.1
  have hLL : M.1 116 = L := (hK.2.1 116 (by decide)).trans hL
  have hHb := tH_b hB p
  show vO x Q G cX4_isFirst RX4 0 [some (aR (some 110)), some (aI c), none] [] M
  refine v_aload_n 0 dX4_isFirst_0 rfl rfl ?_
  refine v_aload_n 0 dX4_isFirst_1 rfl rfl ?_
  refine oVv0 4 (c_X4_here hL0 hL ht hB hK (by omega)) k0_X4_here ki_X4_here ml_X4_146 (rfl : SH 110 = _) (by decide) (vRo_of hxR (by decide) (by decide)) dX4_isFirst_2 (Nat.le_of_ble_eq_true rfl) ?_
  refine v_bipush dX4_isFirst_5 (by decide) ?_
  refine v_isub dX4_isFirst_7 ?_
  refine v_putI lp_X4_149 rfl rfl (rfl : SH 110 = _) dX4_isFirst_8 ?_
  refine o_tK (hK.fi (tH L t p - 48)) (fun K hK => ?_)
  have hLM := hK.lay hL0
  have h17 := hK.2.2.2.1
  have h19 := hK.2.2.2.2.2.1
  refine v_aload_n 0 dX4_isFirst_11 rfl rfl ?_
  refine o_getI (u := (tH L t p - 48)) lk_X4_149 rfl (rfl : SH 110 = _) h19 dX4_isFirst_12 ?_
  refine v_iconst dX4_isFirst_15 ?_
  refine v_iload_n 1 dX4_isFirst_16 rfl rfl ?_
  refine oSv3 (c_X4_in (by omega) (by decide) hc) k0_X4_in ki_X4_in ml_X4_59 (vRo_of hxR (by decide) (by decide)) dX4_isFirst_17 (Nat.le_of_ble_eq_true rfl) ?_
  refine v_ist2 dX4_isFirst_20 rfl ?_
  refine v_aload_n 0 dX4_isFirst_21 rfl rfl ?_
  refine v_dup dX4_isFirst_22 rfl ?_
  refine o_getI (u := (p : Int)) lk_X4_143 rfl (rfl : SH 110 = _) h17 dX4_isFirst_23 ?_
  refine v_iload_n 2 dX4_isFirst_26 rfl rfl ?_
  refine v_if_eq 34 dX4_isFirst_27 (by decide) (bP_R _) (fun h27 => ?_) (fun h27 => ?_)
  · skip
    have g := bP_0.mp h27
    refine v_iconst dX4_isFirst_34 ?_
    refine v_iadd dX4_isFirst_35 ?_
    refine v_putI lp_X4_143 rfl rfl (rfl : SH 110 = _) dX4_isFirst_36 ?_
    refine v_iload_n 2 dX4_isFirst_39 rfl rfl ?_
    refine o_zret hQ hlk hrt (bP_01 _) dX4_isFirst_40 ?_
    exact ⟨rfl, hK.pl (by first | (rw [if_pos g]; omega) | (rw [if_neg g]; omega))⟩
  · skip
    have g := bP_n0.mp h27
    refine v_iconst dX4_isFirst_30 ?_
    refine v_goto 35 dX4_isFirst_31 (by decide) ?_
    refine v_iadd dX4_isFirst_35 ?_
    refine v_putI lp_X4_143 rfl rfl (rfl : SH 110 = _) dX4_isFirst_36 ?_
    refine v_iload_n 2 dX4_isFirst_39 rfl rfl ?_
    refine o_zret hQ hlk hrt (bP_01 _) dX4_isFirst_40 ?_
    exact ⟨rfl, hK.pl (by first | (rw [if_pos g]; omega) | (rw [if_neg g]; omega))⟩
set_option maxRecDepth 100000 in
set_option maxHeartbeats 400000 in
theorem c_X4_isNumber {l : Launch} {G : vGG} {M0 M : Mem} {L : Nat → Int} {t p : Nat} {a f n : Int} (hL0 : LayM M0.2) (hL : M0.1 116 = L) (ht : M0.1 110 7 = (t : Int)) (hB : pLt L t) (hK : tK M0 M p a f n) (hp : p ≤ 200) {lo hi : Int} (hlo : R32 lo) (hhi : R32 hi) : Co l yX4_isNumber cX4_isNumber 6 (some .boolean) (rmo 2 42) G [aR (some 110), aI lo, aI hi] M (fun r M' => r = some (aI (bP (pOk L t p lo hi))) ∧ tK M0 M' (if pOk L t p lo hi then p + pNl L t p else p) (a) (f) (if tD L t p then pNv L t p else n)) := by
  refine Co.ofV (plainFor_of_name (by decide)) rfl rfl ?_
  intro x hxl hxR hlk hrt Q hQ
  have hLM := hK.lay hL0
  have ht80 := hB.1
  have h7 : M.1 110 7 = (t : Int) := (hK.2.2.1 7 (by decide)).trans ht
  have h17 := hK.2.2.2.1
  have hLL : M.1 116 = L := (hK.2.1 116 (by decide)).trans hL
  have hHb := tH_b hB p
  show vO x Q G cX4_isNumber RX4 0 [some (aR (some 110)), some (aI lo), some (aI hi), none, none, none] [] M
  refine v_aload_n 0 dX4_isNumber_0 rfl rfl ?_
  refine o_getI (u := (p : Int)) lk_X4_143 rfl (rfl : SH 110 = _) h17 dX4_isNumber_1 ?_
  refine v_ist3 dX4_isNumber_4 rfl ?_
  refine v_aload_n 0 dX4_isNumber_5 rfl rfl ?_
  refine oVv0 4 (c_X4_isDigit hL0 hL ht hB hK (by omega)) k0_X4_isDigit ki_X4_isDigit ml_X4_152 (rfl : SH 110 = _) (by decide) (vRo_of hxR (by decide) (by decide)) dX4_isNumber_6 (Nat.le_of_ble_eq_true rfl) ?_
  refine v_if_ne 14 dX4_isNumber_9 (by decide) (bP_R _) (fun h9 => ?_) (fun h9 => ?_)
  · skip
    have g9 := bP_n0.mp h9
    refine v_aload_n 0 dX4_isNumber_14 rfl rfl ?_
    refine v_aload_n 0 dX4_isNumber_15 rfl rfl ?_
    refine oVv0 4 (c_X4_here hL0 hL ht hB hK (by omega)) k0_X4_here ki_X4_here ml_X4_146 (rfl : SH 110 = _) (by decide) (vRo_of hxR (by decide) (by decide)) dX4_isNumber_16 (Nat.le_of_ble_eq_true rfl) ?_
    refine v_bipush dX4_isNumber_19 (by decide) ?_
    refine v_isub dX4_isNumber_21 ?_
    refine v_putI lp_X4_156 rfl rfl (rfl : SH 110 = _) dX4_isNumber_22 ?_
    refine o_tK (hK.nu (tH L t p - 48)) (fun K hK => ?_)
    have hLM := hK.lay hL0
    have h17 := hK.2.2.2.1
    have h20 := hK.2.2.2.2.2.2
    refine v_aload_n 0 dX4_isNumber_25 rfl rfl ?_
    refine v_dup dX4_isNumber_26 rfl ?_
    refine o_getI (u := (p : Int)) lk_X4_143 rfl (rfl : SH 110 = _) h17 dX4_isNumber_27 ?_
    refine v_iconst dX4_isNumber_30 ?_
    refine v_iadd dX4_isNumber_31 ?_
    refine v_putI lp_X4_143 rfl rfl (rfl : SH 110 = _) dX4_isNumber_32 ?_
    refine o_tK (hK.pl (p' := p + 1) rfl) (fun K hK => ?_)
    have hLM := hK.lay hL0
    have h17 := hK.2.2.2.1
    have h20 := hK.2.2.2.2.2.2
    refine v_aload_n 0 dX4_isNumber_35 rfl rfl ?_
    refine o_getI (u := (tH L t p - 48)) lk_X4_156 rfl (rfl : SH 110 = _) h20 dX4_isNumber_36 ?_
    have jn103 : ∀ (K : Mem) (c4 : Int), tK M0 K (p + pNl L t p) a f (pNv L t p) → vO x Q G cX4_isNumber RX4 103 [some (aR (some 110)), some (aI lo), some (aI hi), some (aI (p : Int)), some (aI c4), none] [] K := by
      intro K c4 hK
      have hLM := hK.lay hL0
      have h17 := hK.2.2.2.1
      have h20 := hK.2.2.2.2.2.2
      have hvb := pNv_b g9
      have hnl := pNl_d g9
      refine v_aload_n 0 dX4_isNumber_103 rfl rfl ?_
      refine o_getI (u := (pNv L t p)) lk_X4_156 rfl (rfl : SH 110 = _) h20 dX4_isNumber_104 ?_
      refine v_iload_n 1 dX4_isNumber_107 rfl rfl ?_
      refine v_iload_n 2 dX4_isNumber_108 rfl rfl ?_
      refine oSv3 (c_X4_in (by omega) hlo hhi) k0_X4_in ki_X4_in ml_X4_59 (vRo_of hxR (by decide) (by decide)) dX4_isNumber_109 (Nat.le_of_ble_eq_true rfl) ?_
      refine v_ist5 dX4_isNumber_112 rfl ?_
      refine v_aload_n 0 dX4_isNumber_114 rfl rfl ?_
      refine v_iload dX4_isNumber_115 rfl ?_
      have jn128 : ∀ z : Int, z = (((if pOk L t p lo hi then p + pNl L t p else p) : Nat) : Int) → vO x Q G cX4_isNumber RX4 128 [some (aR (some 110)), some (aI lo), some (aI hi), some (aI (p : Int)), some (aI c4), some (aI (bP (lo ≤ pNv L t p ∧ pNv L t p ≤ hi)))] [aI z, aR (some 110)] K := by
        intro z hz
        refine v_putI lp_X4_143 rfl rfl (rfl : SH 110 = _) dX4_isNumber_128 ?_
        refine o_tK (hK.pl hz) (fun K hK => ?_)
        refine v_iload dX4_isNumber_131 rfl ?_
        refine o_zret hQ hlk hrt (bP_01 _) dX4_isNumber_133 ?_
        exact ⟨by rw [bP_congr (show (lo ≤ pNv L t p ∧ pNv L t p ≤ hi) ↔ pOk L t p lo hi from ⟨fun q => ⟨g9, q⟩, fun q => q.2⟩)], by rw [if_pos g9]; exact hK⟩
      refine v_if_eq 127 dX4_isNumber_117 (by decide) (bP_R _) (fun h117 => ?_) (fun h117 => ?_)
      · skip
        have g := bP_0.mp h117
        refine v_iload_n 3 dX4_isNumber_127 rfl rfl ?_
        first | exact jn128 _ (by rw [if_neg (fun q => g q.2)]) | exact jn128 _ (by rw [if_pos ⟨g9, g⟩])
      · skip
        have g := bP_n0.mp h117
        refine v_aload_n 0 dX4_isNumber_120 rfl rfl ?_
        refine o_getI (u := ((p + pNl L t p : Nat) : Int)) lk_X4_143 rfl (rfl : SH 110 = _) h17 dX4_isNumber_121 ?_
        refine v_goto 128 dX4_isNumber_124 (by decide) ?_
        first | exact jn128 _ (by rw [if_neg (fun q => g q.2)]) | exact jn128 _ (by rw [if_pos ⟨g9, g⟩])
    refine v_if_ne 46 dX4_isNumber_39 (by decide) (by omega) (fun h39 => ?_) (fun h39 => ?_)
    · skip
      refine v_iconst dX4_isNumber_46 ?_
      refine v_ist4 dX4_isNumber_47 rfl ?_
      have lp49 : ∀ (dd j : Nat) (K : Mem), j + dd = 3 → 1 ≤ j → tK M0 K (p + j) a f (pDg L t p j) → pNx L t p dd j = pNl L t p → (∀ i, i < j → tD L t (p + i)) → vO x Q G cX4_isNumber RX4 49 [some (aR (some 110)), some (aI lo), some (aI hi), some (aI (p : Int)), some (aI 0), none] [] K := by
        intro dd
        induction dd with
        | zero =>
          intro j K hd hj hK he hiD
          have hj3 : j = 3 := by omega
          have hLM := hK.lay hL0
          have h17 := hK.2.2.2.1
          have h20 := hK.2.2.2.2.2.2
          refine v_iload dX4_isNumber_49 rfl ?_
          refine v_if_ne 103 dX4_isNumber_51 (by decide) (by decide) (fun h51 => ?_) (fun h51 => ?_)
          · skip
            exact absurd h51 (by decide)
          · skip
            refine v_aload_n 0 dX4_isNumber_54 rfl rfl ?_
            refine o_getI (u := ((p + j : Nat) : Int)) lk_X4_143 rfl (rfl : SH 110 = _) h17 dX4_isNumber_55 ?_
            refine v_iload_n 3 dX4_isNumber_58 rfl rfl ?_
            refine v_iconst dX4_isNumber_59 ?_
            refine v_iadd dX4_isNumber_60 ?_
            refine v_icmp_ge 103 dX4_isNumber_61 (by decide) (by omega) (by omega) (fun h61 => ?_) (fun h61 => ?_)
            · skip
              first | exact jn103 _ _ (by rw [(pNl_0 h39).1, (pNl_0 h39).2]; exact hK) | exact jn103 _ _ (by rw [pNv, ← he]; exact hK) | exact jn103 _ _ (by rw [pNv, ← he, pNx, if_neg g68]; exact hK)
            · skip
              exact absurd h61 (by omega)
        | succ dd ih =>
          intro j K hd hj hK he hiD
          have hLM := hK.lay hL0
          have h17 := hK.2.2.2.1
          have h20 := hK.2.2.2.2.2.2
          have hHb2 := tH_b hB (p + j)
          refine v_iload dX4_isNumber_49 rfl ?_
          refine v_if_ne 103 dX4_isNumber_51 (by decide) (by decide) (fun h51 => ?_) (fun h51 => ?_)
          · skip
            exact absurd h51 (by decide)
          · skip
            refine v_aload_n 0 dX4_isNumber_54 rfl rfl ?_
            refine o_getI (u := ((p + j : Nat) : Int)) lk_X4_143 rfl (rfl : SH 110 = _) h17 dX4_isNumber_55 ?_
            refine v_iload_n 3 dX4_isNumber_58 rfl rfl ?_
            refine v_iconst dX4_isNumber_59 ?_
            refine v_iadd dX4_isNumber_60 ?_
            refine v_icmp_ge 103 dX4_isNumber_61 (by decide) (by omega) (by omega) (fun h61 => ?_) (fun h61 => ?_)
            · skip
              exact absurd h61 (by omega)
            · skip
              refine v_aload_n 0 dX4_isNumber_64 rfl rfl ?_
              refine oVv0 4 (c_X4_isDigit hL0 hL ht hB hK (by omega)) k0_X4_isDigit ki_X4_isDigit ml_X4_152 (rfl : SH 110 = _) (by decide) (vRo_of hxR (by decide) (by decide)) dX4_isNumber_65 (Nat.le_of_ble_eq_true rfl) ?_
              refine v_if_eq 103 dX4_isNumber_68 (by decide) (bP_R _) (fun h68 => ?_) (fun h68 => ?_)
              · skip
                have g68 := bP_0.mp h68
                first | exact jn103 _ _ (by rw [(pNl_0 h39).1, (pNl_0 h39).2]; exact hK) | exact jn103 _ _ (by rw [pNv, ← he]; exact hK) | exact jn103 _ _ (by rw [pNv, ← he, pNx, if_neg g68]; exact hK)
              · skip
                have g68 := bP_n0.mp h68
                refine v_aload_n 0 dX4_isNumber_71 rfl rfl ?_
                refine v_bipush dX4_isNumber_72 (by decide) ?_
                refine v_aload_n 0 dX4_isNumber_74 rfl rfl ?_
                refine o_getI (u := (pDg L t p j)) lk_X4_156 rfl (rfl : SH 110 = _) h20 dX4_isNumber_75 ?_
                refine v_imul dX4_isNumber_78 ?_
                refine v_aload_n 0 dX4_isNumber_79 rfl rfl ?_
                refine oVv0 4 (c_X4_here hL0 hL ht hB hK (by omega)) k0_X4_here ki_X4_here ml_X4_146 (rfl : SH 110 = _) (by decide) (vRo_of hxR (by decide) (by decide)) dX4_isNumber_80 (Nat.le_of_ble_eq_true rfl) ?_
                refine v_iadd dX4_isNumber_83 ?_
                refine v_bipush dX4_isNumber_84 (by decide) ?_
                refine v_isub dX4_isNumber_86 ?_
                refine v_putI lp_X4_156 rfl rfl (rfl : SH 110 = _) dX4_isNumber_87 ?_
                refine o_tK (p := p + j) (a := a) (f := f) (n := pDg L t p (j + 1)) (by have q := hK.nu (10 * pDg L t p j + tH L t (p + j) - 48); rw [show 10 * pDg L t p j + tH L t (p + j) - 48 = pDg L t p (j + 1) by rw [pDg]; omega] at q ⊢; exact q) (fun K hK => ?_)
                have hLM := hK.lay hL0
                have h17 := hK.2.2.2.1
                have h20 := hK.2.2.2.2.2.2
                refine v_aload_n 0 dX4_isNumber_90 rfl rfl ?_
                refine v_dup dX4_isNumber_91 rfl ?_
                refine o_getI (u := ((p + j : Nat) : Int)) lk_X4_143 rfl (rfl : SH 110 = _) h17 dX4_isNumber_92 ?_
                refine v_iconst dX4_isNumber_95 ?_
                refine v_iadd dX4_isNumber_96 ?_
                refine v_putI lp_X4_143 rfl rfl (rfl : SH 110 = _) dX4_isNumber_97 ?_
                refine o_tK (hK.pl (p' := p + (j + 1)) (by omega)) (fun K hK => ?_)
                have hLM := hK.lay hL0
                have h17 := hK.2.2.2.1
                have h20 := hK.2.2.2.2.2.2
                refine v_goto 49 dX4_isNumber_100 (by decide) ?_
                exact ih (j + 1) _ (by omega) (by omega) hK (by rw [← he, pNx, if_pos g68]) (fun i h => by by_cases e : i = j; rw [e]; exact g68; exact hiD i (by omega))
      exact lp49 2 1 _ rfl (Nat.le_refl _) (by rw [pDg, pDg, Int.mul_zero, Int.zero_add]; exact hK) (by rw [pNl, if_pos g9, if_neg (by omega)]) (fun i h => by rw [show i = 0 by omega]; exact g9)
    · skip
      refine v_iconst dX4_isNumber_42 ?_
      refine v_goto 47 dX4_isNumber_43 (by decide) ?_
      refine v_ist4 dX4_isNumber_47 rfl ?_
      refine v_iload dX4_isNumber_49 rfl ?_
      refine v_if_ne 103 dX4_isNumber_51 (by decide) (by decide) (fun h51 => ?_) (fun h51 => ?_)
      · skip
        first | exact jn103 _ _ (by rw [(pNl_0 h39).1, (pNl_0 h39).2]; exact hK) | exact jn103 _ _ (by rw [pNv, ← he]; exact hK) | exact jn103 _ _ (by rw [pNv, ← he, pNx, if_neg g68]; exact hK)
      · skip
        exact absurd h51 (by decide)
  · skip
    have g9 := bP_0.mp h9
    refine v_iconst dX4_isNumber_12 ?_
    refine o_zret hQ hlk hrt (by decide) dX4_isNumber_13 ?_
    exact ⟨by rw [bP_f (fun q => g9 q.1)], by rw [if_neg (fun q => g9 q.1), if_neg g9]; exact hK⟩
