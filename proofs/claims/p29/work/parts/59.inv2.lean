theorem lay_inv {v : Sg} (hI : sInv v) {s : Nat} (hs : s < 8) {b c d : Int} (hb : 0 ≤ b ∧ b ≤ 1) (hc : 1 ≤ c ∧ c ≤ 40) (hd : 0 ≤ d ∧ d ≤ 200) : sInv (sLay v s b c d) := by
  obtain ⟨h1, h2, h3, h4, h5, h6⟩ := hI
  have e : ∀ i, (i < 24 + 5 * s ∨ 24 + 5 * s + 2 < i) → (i < 64 + 24 * s ∨ 64 + 24 * s + 24 ≤ i) → sLay v s b c d i = v i := fun i p q => by
    rw [sLay, if_neg (by omega), if_neg (by omega), if_neg (by omega), if_neg (by omega)]
  refine ⟨fun t ht => ?_, ?_, fun p hp => ?_, ?_, ?_, ?_⟩
  · have q := h1 t ht
    by_cases ets : t = s
    · subst ets
      rw [show sLay v t b c d (24 + 5 * t) = b by rw [sLay, if_neg (by omega), if_pos rfl], show sLay v t b c d (24 + 5 * t + 1) = c by rw [sLay, if_neg (by omega), if_neg (by omega), if_pos rfl], show sLay v t b c d (24 + 5 * t + 2) = d by rw [sLay, if_neg (by omega), if_neg (by omega), if_neg (by omega), if_pos rfl], e (24 + 5 * t + 3) (by omega) (by omega), e (256 + t) (by omega) (by omega)]
      exact ⟨hb, hc, hd, q.2.2.2.1, q.2.2.2.2⟩
    · rw [e _ (by omega) (by omega), e (24 + 5 * t + 1) (by omega) (by omega), e (24 + 5 * t + 2) (by omega) (by omega), e (24 + 5 * t + 3) (by omega) (by omega), e (256 + t) (by omega) (by omega)]
      exact q
  · have : ∀ t, t ≤ 8 → sCi (sLay v s b c d) t = sCi v t := by
      intro t
      induction t with
      | zero => intro _; rfl
      | succ t ih => intro ht; rw [sCi, sCi, ih (by omega), e _ (by omega) (by omega)]
    rw [this 8 (Nat.le_refl _)]
    exact h2
  · by_cases q : 64 + 24 * s ≤ 64 + p ∧ 64 + p < 64 + 24 * s + 24
    · rw [sLay, if_pos q]
      decide
    · rw [e _ (by omega) (by omega)]
      exact h3 p hp
  · rw [e 1 (by omega) (by omega), e 2 (by omega) (by omega), e 3 (by omega) (by omega), e 4 (by omega) (by omega), e 5 (by omega) (by omega), e 6 (by omega) (by omega), e 7 (by omega) (by omega), e 8 (by omega) (by omega), e 9 (by omega) (by omega)]
    exact h4
  · rw [e 10 (by omega) (by omega), e 11 (by omega) (by omega), e 12 (by omega) (by omega)]
    exact h5
  · rw [e 0 (by omega) (by omega), e 17 (by omega) (by omega), e 20 (by omega) (by omega), e 21 (by omega) (by omega), e 22 (by omega) (by omega), e 23 (by omega) (by omega)]
    exact h6
