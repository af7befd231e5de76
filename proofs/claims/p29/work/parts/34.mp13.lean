/-! ===== the twin: the text as a whole, play ===== -/
def pT (L : Nat → Int) (t : Nat) : Nat → Nat → Bool × Nat
  | 0, p => (true, p)
  | n + 1, p => if p < t then (if (pA L t p).1 = true then pT L t n (pA L t p).2 else (false, (pA L t p).2)) else (true, p)
theorem pT_end {L : Nat → Int} {t p : Nat} (h : t ≤ p) : ∀ n, pT L t n p = (true, p)
  | 0 => rfl
  | n + 1 => by rw [pT, if_neg (by omega)]
theorem pA_b (L : Nat → Int) (t p : Nat) : (pA L t p).2 ≤ p + 6 ∧ ((pA L t p).1 = true → p + 1 ≤ (pA L t p).2) := by
  unfold pA
  repeat' split
  all_goals dsimp only
  all_goals first
    | omega
    | (have := pNl_d (show pOk L t (p + 2) 0 23 by assumption).1; omega)
    | (have := pNl_d (show pOk L t (p + 1) 1 200 by assumption).1; omega)
    | (have := pNl_d (show pOk L t (p + 2) 0 23 by assumption).1; exact ⟨by omega, fun q => by cases q⟩)
    | (have := pNl_d (show pOk L t (p + 1) 1 200 by assumption).1; exact ⟨by omega, fun q => by cases q⟩)
    | exact ⟨by omega, fun q => by cases q⟩
theorem pA_ok {L : Nat → Int} {t p : Nat} (h : (pA L t p).1 = true) : (tH L t p = 116 ∧ 1 ≤ pNv L t (p + 1) ∧ pNv L t (p + 1) ≤ 200) ∨ ((tH L t p = 100 ∨ tH L t p = 114) ∧ 0 ≤ tH L t (p + 1) - 48 ∧ tH L t (p + 1) - 48 ≤ 7) ∨ ((tH L t p = 112 ∨ tH L t p = 108) ∧ (0 ≤ tH L t (p + 1) - 48 ∧ tH L t (p + 1) - 48 ≤ 1) ∧ 0 ≤ pNv L t (p + 2) ∧ pNv L t (p + 2) ≤ 23) := by
  unfold pA at h
  by_cases h1 : tH L t p = 100 ∨ tH L t p = 114
  · rw [if_pos h1] at h
    by_cases h2 : 0 ≤ tH L t (p + 1) - 48 ∧ tH L t (p + 1) - 48 ≤ 7
    · exact .inr (.inl ⟨h1, h2⟩)
    · rw [if_neg h2] at h; cases h
  · rw [if_neg h1] at h
    by_cases h2 : tH L t p = 112 ∨ tH L t p = 108
    · rw [if_pos h2] at h
      by_cases h3 : 0 ≤ tH L t (p + 1) - 48 ∧ tH L t (p + 1) - 48 ≤ 1
      · rw [if_pos h3] at h
        by_cases h4 : pOk L t (p + 2) 0 23
        · exact .inr (.inr ⟨h2, h3, h4.2⟩)
        · rw [if_neg h4] at h; cases h
      · rw [if_neg h3] at h; cases h
    · rw [if_neg h2] at h
      by_cases h3 : tH L t p = 116
      · rw [if_pos h3] at h
        by_cases h4 : pOk L t (p + 1) 1 200
        · exact .inl ⟨h3, h4.2⟩
        · rw [if_neg h4] at h; cases h
      · rw [if_neg h3] at h; cases h
theorem tK.ini (M : Mem) : tK M (vup M.1 110 17 0, M.2) 0 (M.1 110 18) (M.1 110 19) (M.1 110 20) := by
  refine ⟨rfl, fun i hi => ?_, fun k hk => ?_, ?_, ?_, ?_, ?_⟩ <;> dsimp only
  · funext b; rw [vup_o (by omega)]
  · rw [vup_o (by omega)]
  · rw [vup_s]; rfl
  · rw [vup_o (by omega)]
  · rw [vup_o (by omega)]
  · rw [vup_o (by omega)]
theorem tK.rf {M : Mem} {p : Nat} (h : M.1 110 17 = (p : Int)) : tK M M p (M.1 110 18) (M.1 110 19) (M.1 110 20) := ⟨rfl, fun _ _ => rfl, fun _ _ => rfl, h, rfl, rfl, rfl⟩
def aFault (L : Nat → Int) (t : Nat) : Int := if (pT L t 80 0).1 = true then -1000005 else ((pT L t 80 0).2 : Int)
theorem pT_b {L : Nat → Int} {t : Nat} (h : t ≤ 80) : ∀ n p, p ≤ 100 → (pT L t n p).2 ≤ 100
  | 0, p, hp => hp
  | n + 1, p, hp => by
    rw [pT]
    split
    · have := pA_b L t p
      split
      · exact pT_b h n _ (by omega)
      · show (pA L t p).2 ≤ 100
        omega
    · exact hp
def pE (L : Nat → Int) (t : Nat) (w : Sg) (p : Nat) : Sg := if tH L t p = 116 then sTks w (pNv L t (p + 1)).toNat else if tH L t p = 100 ∨ tH L t p = 114 then sDra w (tH L t (p + 1) - 48).toNat (bP (tH L t p = 100)) else sPre w (tH L t (p + 1) - 48).toNat (pNv L t (p + 2)).toNat (bP (tH L t p = 112))
def pPl (L : Nat → Int) (t : Nat) : Nat → Nat → Sg → Sg × Nat
  | 0, _, w => (w, 0)
  | n + 1, p, w => if p < t then ((pPl L t n (pA L t p).2 (pE L t w p)).1, (pPl L t n (pA L t p).2 (pE L t w p)).2 + 1) else (w, 0)
theorem pPl_end {L : Nat → Int} {t p : Nat} (h : t ≤ p) (w : Sg) : ∀ n, pPl L t n p w = (w, 0)
  | 0 => rfl
  | n + 1 => by rw [pPl, if_neg (by omega)]
theorem pre_inv {v : Sg} (hI : sInv v) {m k : Nat} (hm : m < 2) (hk : k < 24) (on : Int) : sInv (sPre v m k on) := by
  have hb := pre_b hI hm
  have hlt := wth_lt (s := (v (11 + m)).toNat) (decide (on ≠ 0)) (by omega) hk
  obtain ⟨h1, h2, h3, h4, h5, h6⟩ := hI
  have e : ∀ i, i ≠ 11 + m → sPre v m k on i = v i := fun i hi => sup_ne _ _ hi
  refine ⟨fun t ht => by rw [e _ (by omega), e (24 + 5 * t + 1) (by omega), e (24 + 5 * t + 2) (by omega), e (24 + 5 * t + 3) (by omega), e (256 + t) (by omega)]; exact h1 t ht, ?_, fun p hp => by rw [e _ (by omega)]; exact h3 p hp, ?_, ?_, ?_⟩
  · have : ∀ t, t ≤ 8 → sCi (sPre v m k on) t = sCi v t := by
      intro t
      induction t with
      | zero => intro _; rfl
      | succ t ih => intro ht; rw [sCi, sCi, ih (by omega), e _ (by omega)]
    rw [this 8 (Nat.le_refl _)]
    exact h2
  · rw [e 1 (by omega), e 2 (by omega), e 3 (by omega), e 4 (by omega), e 5 (by omega), e 6 (by omega), e 7 (by omega), e 8 (by omega), e 9 (by omega)]
    exact h4
  · rw [e 10 (by omega)]
    refine ⟨h5.1, ?_, ?_⟩
    · rcases (show m = 0 ∨ m = 1 by omega) with rfl | rfl
      · rw [sPre, sup_eq]; omega
      · rw [e 11 (by omega)]; exact h5.2.1
    · rcases (show m = 0 ∨ m = 1 by omega) with rfl | rfl
      · rw [e 12 (by omega)]; exact h5.2.2
      · show 0 ≤ sup v 12 _ 12 ∧ sup v 12 _ 12 < 16777216
        rw [sup_eq]; omega
  · rw [e 0 (by omega), e 17 (by omega), e 20 (by omega), e 21 (by omega), e 22 (by omega), e 23 (by omega)]
    exact h6
theorem pE_inv {L : Nat → Int} {t p : Nat} {w : Sg} (hI : sInv w) (h : (pA L t p).1 = true) : sInv (pE L t w p) := by
  have ho := pA_ok h
  unfold pE
  by_cases h1 : tH L t p = 116
  · rw [if_pos h1]; exact sTks_inv hI _
  · rw [if_neg h1]
    by_cases h2 : tH L t p = 100 ∨ tH L t p = 114
    · rw [if_pos h2]; exact dra_inv hI (by omega) _
    · rw [if_neg h2]; exact pre_inv hI (by omega) (by omega) _
/-- where a play stands -/
def pJ (M0 K : Mem) (p : Nat) : Prop := K.2 = M0.2 ∧ (∀ i, i ≠ 110 → i ∉ mL → K.1 i = M0.1 i) ∧ (∀ k, k < 17 → K.1 110 k = M0.1 110 k) ∧ K.1 110 17 = (p : Int)
theorem pJ.step {M0 K N N' : Mem} {p p' : Nat} {a f n : Int} {Lf : List Nat} (h : pJ M0 K p) (h1 : tK K N p' a f n) (h2 : fr Lf N N') (hs : ∀ i, i ∈ Lf → i ∈ mL) (h0 : 110 ∉ Lf) : pJ M0 N' p' := by
  refine ⟨h2.1.trans (h1.1.trans h.1), fun i hi hm => ?_, fun k hk => ?_, ?_⟩
  · rw [h2.2 i (fun q => hm (hs i q)), h1.2.1 i hi, h.2.1 i hi hm]
  · rw [h2.2 110 h0, h1.2.2.1 k hk, h.2.2.1 k hk]
  · rw [h2.2 110 h0]; exact h1.2.2.2.1
theorem pPl_cnt (L : Nat → Int) (t : Nat) : ∀ n p w, (pPl L t n p w).2 ≤ n
  | 0, _, _ => Nat.le_refl _
  | n + 1, p, w => by
    rw [pPl]
    split
    · have := pPl_cnt L t n (pA L t p).2 (pE L t w p)
      show (pPl L t n (pA L t p).2 (pE L t w p)).2 + 1 ≤ n + 1
      omega
    · exact Nat.zero_le _
def pPost (n : Nat) (v : Sg) (L : Nat → Int) (t : Nat) (M : Mem) (r : Option AV) (M' : Mem) : Prop :=
  ((pT L t 80 0).1 = true ∧ r = some (aI (((pPl L t 80 0 v).2 : Nat) : Int)) ∧ ∃ N1 M2 : Mem, (∃ (p : Nat) (a f n : Int), tK M N1 p a f n) ∧ mRec n v N1 M2 ∧ M'.2 = M2.2 ∧ (∀ i, i ≠ 110 → i ∉ mL → M'.1 i = M2.1 i) ∧ (∀ k, k < 17 → M'.1 110 k = M2.1 110 k) ∧ M'.1 111 = (pPl L t 80 0 v).1) ∨
  (¬ (pT L t 80 0).1 = true ∧ r = some (aI (-1000003)) ∧ ∃ (p : Nat) (a f n : Int), tK M M' p a f n)
