/-! ===== the changed rows keep their ranges ===== -/
theorem set_inv {v : Sg} (hI : sInv v) {k : Nat} (hk : k < 9) {z : Int} (hz : tLo k ≤ z ∧ z ≤ tHi k) : sInv (sup v (1 + k) z) := by
  obtain ⟨h1, h2, h3, h4, h5, h6⟩ := hI
  have e : ∀ i, i ≠ 1 + k → sup v (1 + k) z i = v i := fun i hi => sup_ne _ _ hi
  refine ⟨fun t ht => by rw [e _ (by omega), e (24 + 5 * t + 1) (by omega), e (24 + 5 * t + 2) (by omega), e (24 + 5 * t + 3) (by omega), e (256 + t) (by omega)]; exact h1 t ht, ?_, fun p hp => by rw [e _ (by omega)]; exact h3 p hp, ?_, ?_, ?_⟩
  · have : ∀ t, t ≤ 8 → sCi (sup v (1 + k) z) t = sCi v t := by
      intro t
      induction t with
      | zero => intro _; rfl
      | succ t ih => intro ht; rw [sCi, sCi, ih (by omega), e _ (by omega)]
    rw [this 8 (Nat.le_refl _)]
    exact h2
  · rcases (show k = 0 ∨ k = 1 ∨ k = 2 ∨ k = 3 ∨ k = 4 ∨ k = 5 ∨ k = 6 ∨ k = 7 ∨ k = 8 by omega) with rfl | rfl | rfl | rfl | rfl | rfl | rfl | rfl | rfl <;> simp only [tLo, tHi] at hz <;> simp [sup] <;> omega
  · rw [e 10 (by omega), e 11 (by omega), e 12 (by omega)]
    exact h5
  · rw [e 0 (by omega), e 17 (by omega), e 20 (by omega), e 21 (by omega), e 22 (by omega), e 23 (by omega)]
    exact h6
theorem cou_inv {v : Sg} (hI : sInv v) (a b : Int) : sInv (sCou v a b) := by
  have ha := bP_01 (a ≠ 0)
  have hb := bP_01 (b ≠ 0)
  obtain ⟨h1, h2, h3, h4, h5, h6⟩ := hI
  have e : ∀ i, i ≠ 10 → sCou v a b i = v i := fun i hi => sup_ne _ _ hi
  refine ⟨fun t ht => by rw [e _ (by omega), e (24 + 5 * t + 1) (by omega), e (24 + 5 * t + 2) (by omega), e (24 + 5 * t + 3) (by omega), e (256 + t) (by omega)]; exact h1 t ht, ?_, fun p hp => by rw [e _ (by omega)]; exact h3 p hp, ?_, ?_, ?_⟩
  · have : ∀ t, t ≤ 8 → sCi (sCou v a b) t = sCi v t := by
      intro t
      induction t with
      | zero => intro _; rfl
      | succ t ih => intro ht; rw [sCi, sCi, ih (by omega), e _ (by omega)]
    rw [this 8 (Nat.le_refl _)]
    exact h2
  · rw [e 1 (by omega), e 2 (by omega), e 3 (by omega), e 4 (by omega), e 5 (by omega), e 6 (by omega), e 7 (by omega), e 8 (by omega), e 9 (by omega)]
    exact h4
  · rw [e 11 (by omega), e 12 (by omega), sCou, sup_eq]
    exact ⟨by omega, h5.2⟩
  · rw [e 0 (by omega), e 17 (by omega), e 20 (by omega), e 21 (by omega), e 22 (by omega), e 23 (by omega)]
    exact h6
theorem tun_inv {v : Sg} (hI : sInv v) {s k : Nat} (hs : s < 8) (hk : k < 24) (hb : -200 ≤ -sBend v (sDrw v) true s ∧ -sBend v (sDrw v) true s ≤ 200) : sInv (sTun v s k) := by
  obtain ⟨h1, h2, h3, h4, h5, h6⟩ := hI
  have e : ∀ i, i ≠ 64 + 24 * s + k → sTun v s k i = v i := fun i hi => sup_ne _ _ hi
  refine ⟨fun t ht => by rw [e _ (by omega), e (24 + 5 * t + 1) (by omega), e (24 + 5 * t + 2) (by omega), e (24 + 5 * t + 3) (by omega), e (256 + t) (by omega)]; exact h1 t ht, ?_, fun p hp => ?_, ?_, ?_, ?_⟩
  · have : ∀ t, t ≤ 8 → sCi (sTun v s k) t = sCi v t := by
      intro t
      induction t with
      | zero => intro _; rfl
      | succ t ih => intro ht; rw [sCi, sCi, ih (by omega), e _ (by omega)]
    rw [this 8 (Nat.le_refl _)]
    exact h2
  · by_cases q : 64 + p = 64 + 24 * s + k
    · rw [q, sTun, sup_eq]
      exact hb
    · rw [e _ q]
      exact h3 p hp
  · rw [e 1 (by omega), e 2 (by omega), e 3 (by omega), e 4 (by omega), e 5 (by omega), e 6 (by omega), e 7 (by omega), e 8 (by omega), e 9 (by omega)]
    exact h4
  · rw [e 10 (by omega), e 11 (by omega), e 12 (by omega)]
    exact h5
  · rw [e 0 (by omega), e 17 (by omega), e 20 (by omega), e 21 (by omega), e 22 (by omega), e 23 (by omega)]
    exact h6
