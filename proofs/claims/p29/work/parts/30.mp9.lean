/-! ===== the twin: cipher, tune, lowest, undo, save, restore, append, clearText ===== -/
theorem cnt_set {f g : Nat → Bool} {k : Nat} {b : Bool} (h : ∀ j, g j = if j = k then b else f j) : ∀ n, (List.range n).countP g + (if k < n then (f k).toNat else 0) = (List.range n).countP f + (if k < n then b.toNat else 0)
  | 0 => rfl
  | n + 1 => by
    have ih := cnt_set h n
    rw [List.range_succ, List.countP_append, List.countP_append, List.countP_cons, List.countP_cons, List.countP_nil, List.countP_nil]
    by_cases e : n = k
    · subst e
      rw [if_neg (Nat.lt_irrefl n), if_neg (Nat.lt_irrefl n)] at ih
      rw [if_pos (Nat.lt_succ_self n), if_pos (Nat.lt_succ_self n)]
      have hg : g n = b := by rw [h n, if_pos rfl]
      rw [hg]
      cases hf : f n <;> cases b <;> simp <;> omega
    · have hg : g n = f n := by rw [h n, if_neg e]
      rw [hg]
      by_cases hk : k < n
      · rw [if_pos hk, if_pos hk] at ih
        rw [if_pos (show k < n + 1 by omega), if_pos (show k < n + 1 by omega)]
        omega
      · rw [if_neg hk, if_neg hk] at ih
        rw [if_neg (show ¬ k < n + 1 by omega), if_neg (show ¬ k < n + 1 by omega)]
        omega
theorem cnt_congr {f g : Nat → Bool} : ∀ n, (∀ j, j < n → g j = f j) → (List.range n).countP g = (List.range n).countP f
  | 0, _ => rfl
  | n + 1, h => by
    rw [List.range_succ, List.countP_append, List.countP_append, List.countP_cons, List.countP_cons, List.countP_nil, List.countP_nil, h n (by omega), cnt_congr n (fun j hj => h j (by omega))]
theorem pc_wth {z k : Nat} (b : Bool) (hk : k < 24) : pc (wth z k b) + (z.testBit k).toNat = pc z + b.toNat := by
  have h := cnt_set (f := fun i => z.testBit i) (g := fun j => if j = k then b else z.testBit j) (k := k) (b := b) (fun j => rfl) 24
  rw [if_pos hk, if_pos hk] at h
  rw [pc, pc, pcf_bits, pcf_bits, cnt_congr (f := fun j => if j = k then b else z.testBit j) 24 (fun j hj => wth_bit b (by omega) j (by omega))]
  exact h
theorem sCi_sup (v : Sg) (s : Nat) (z : Int) : ∀ t, sCi (sup v (256 + s) z) t + (if s < t then pc (v (256 + s)).toNat else 0) = sCi v t + (if s < t then pc z.toNat else 0)
  | 0 => by rw [if_neg (Nat.not_lt_zero s), if_neg (Nat.not_lt_zero s)]; rfl
  | t + 1 => by
    have ih := sCi_sup v s z t
    rw [sCi, sCi]
    by_cases e : t = s
    · subst e
      rw [if_neg (Nat.lt_irrefl t), if_neg (Nat.lt_irrefl t)] at ih
      rw [if_pos (Nat.lt_succ_self t), if_pos (Nat.lt_succ_self t), sup_eq]
      omega
    · rw [sup_ne _ _ (show 256 + t ≠ 256 + s by omega)]
      by_cases hk : s < t
      · rw [if_pos hk, if_pos hk] at ih
        rw [if_pos (show s < t + 1 by omega), if_pos (show s < t + 1 by omega)]
        omega
      · rw [if_neg hk, if_neg hk] at ih
        rw [if_neg (show ¬ s < t + 1 by omega), if_neg (show ¬ s < t + 1 by omega)]
        omega
theorem cip_inv {v : Sg} (hI : sInv v) {s k : Nat} {on : Int} (hs : s < 8) (hk : k < 24) (hg : ¬ (on ≠ 0 ∧ bt (v (256 + s)) k = false ∧ sCi v 8 = 6)) : sInv (sCip v s k on) := by
  have hb := (iv_st hI hs).2.2.2.2
  have hlt := wth_lt (s := (v (256 + s)).toNat) (decide (on ≠ 0)) (by omega) hk
  have hcc := sCi_sup v s ((wth (v (256 + s)).toNat k (decide (on ≠ 0)) : Nat) : Int) 8
  have hpc := pc_wth (z := (v (256 + s)).toNat) (decide (on ≠ 0)) hk
  rw [if_pos hs, if_pos hs, Int.toNat_natCast] at hcc
  obtain ⟨h1, h2, h3, h4, h5, h6⟩ := hI
  have e : ∀ i, i ≠ 256 + s → sCip v s k on i = v i := fun i hi => sup_ne _ _ hi
  refine ⟨fun t ht => ?_, ?_, fun p hp => by rw [e _ (by omega)]; exact h3 p hp, ?_, ?_, ?_⟩
  · have := h1 t ht
    rw [e _ (by omega), e (24 + 5 * t + 1) (by omega), e (24 + 5 * t + 2) (by omega), e (24 + 5 * t + 3) (by omega)]
    refine ⟨this.1, this.2.1, this.2.2.1, this.2.2.2.1, ?_⟩
    by_cases ht2 : t = s
    · subst ht2
      rw [sCip, sup_eq]
      omega
    · rw [e _ (by omega)]
      exact this.2.2.2.2
  · have h7 : sCi (sCip v s k on) 8 + ((v (256 + s)).toNat.testBit k).toNat = sCi v 8 + (decide (on ≠ 0)).toNat := by
      rw [sCip]
      omega
    by_cases ho : on ≠ 0
    · cases hbit : (v (256 + s)).toNat.testBit k with
      | true => rw [hbit, decide_eq_true ho] at h7; omega
      | false =>
        have : ¬ sCi v 8 = 6 := fun q => hg ⟨ho, hbit, q⟩
        rw [hbit, decide_eq_true ho] at h7
        simp at h7
        omega
    · rw [decide_eq_false ho] at h7
      simp at h7
      omega
  · rw [e 1 (by omega), e 2 (by omega), e 3 (by omega), e 4 (by omega), e 5 (by omega), e 6 (by omega), e 7 (by omega), e 8 (by omega), e 9 (by omega)]
    exact h4
  · rw [e 10 (by omega), e 11 (by omega), e 12 (by omega)]
    exact h5
  · rw [e 0 (by omega), e 17 (by omega), e 20 (by omega), e 21 (by omega), e 22 (by omega), e 23 (by omega)]
    exact h6
theorem w_nn (s k : Nat) (b : Bool) : R32 0 := by decide
def oPostQ (n : Nat) (v : Sg) (M : Mem) (good : Prop) (ans err : Int) (w : Sg) (r : Option AV) (M' : Mem) : Prop := (good ∧ r = some (aI ans) ∧ ∃ M0 K : Mem, fr [120, 121, 122, 123, 124, 125] M M0 ∧ mRec n v M0 K ∧ fr mL K M' ∧ M'.1 111 = w) ∨ (¬ good ∧ r = some (aI err) ∧ fr [120, 121, 122, 123, 124, 125] M M')
def sLw (v : Sg) : Nat → Int
  | 0 => 1000000
  | n + 1 => min (sLw v n) (sTks v (n + 1) 0)
def aLow (v : Sg) (a : Int) : Int := if 1 ≤ a ∧ a ≤ 1000 then sLw v a.toNat else -1000002
theorem sTks_add (v : Sg) (a : Nat) : ∀ b, sTks (sTks v a) b = sTks v (a + b)
  | 0 => rfl
  | b + 1 => by rw [sTks, sTks_add v a b]; rfl
theorem sTks_v0 {v : Sg} (h : sInv v) (n : Nat) : 0 ≤ sTks v n 0 ∧ sTks v n 0 ≤ 20000 := (iv_bel (sTks_inv h n)).1
theorem sTks_same {v : Sg} (h : sInv v) : ∀ n, sSame v (sTks v n)
  | 0 => sSame.rf v
  | n + 1 => (sTks_same h n).tr (sTick_same (sTks_inv h n))
theorem sLw_b {v : Sg} (h : sInv v) : ∀ n, 0 < n → 0 ≤ sLw v n ∧ sLw v n ≤ 20000
  | 0, q => absurd q (by omega)
  | n + 1, _ => by
    have h1 := sTks_v0 h (n + 1)
    rw [sLw]
    cases n with
    | zero => rw [sLw]; omega
    | succ n => have := sLw_b h (n + 1) (by omega); omega
