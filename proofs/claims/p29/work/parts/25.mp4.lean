/-! ===== the twin: mistuned, searches; the questions ===== -/
theorem mi_e {v : Sg} {st p : Nat} (h : ¬ sRs v st true (p / 24) (p % 24) = 0) : sMi v st p = sMi v st (p + 1) := by rw [sMi, if_neg h]
theorem mi_a {v : Sg} {st p : Nat} (h : sRs v st true (p / 24) (p % 24) = 0) (ha : (sMi v st p).2.2 = false) : sPitch v st true (p / 24) (p % 24) = (sMi v st (p + 1)).1 ∧ sPitch v st true (p / 24) (p % 24) = (sMi v st (p + 1)).2.1 := by
  rw [sMi, if_pos h]
  dsimp only
  rw [if_pos (Or.inl ha), if_pos (Or.inl ha)]
  exact ⟨rfl, rfl⟩
theorem mi_b {v : Sg} {st p : Nat} (h : sRs v st true (p / 24) (p % 24) = 0) (hb : sPitch v st true (p / 24) (p % 24) < (sMi v st p).1) : sPitch v st true (p / 24) (p % 24) = (sMi v st (p + 1)).1 := by
  rw [sMi, if_pos h]
  dsimp only
  rw [if_pos (Or.inr hb)]
theorem mi_c {v : Sg} {st p : Nat} (h : sRs v st true (p / 24) (p % 24) = 0) (ha : (sMi v st p).2.2 = true) (hb : (sMi v st p).1 ≤ sPitch v st true (p / 24) (p % 24)) : (sMi v st p).1 = (sMi v st (p + 1)).1 := by
  rw [sMi, if_pos h]
  dsimp only
  rw [if_neg]
  rintro (q | q)
  · rw [ha] at q; cases q
  · omega
theorem mi_d {v : Sg} {st p : Nat} (h : sRs v st true (p / 24) (p % 24) = 0) (hb : (sMi v st p).2.1 < sPitch v st true (p / 24) (p % 24)) : sPitch v st true (p / 24) (p % 24) = (sMi v st (p + 1)).2.1 := by
  rw [sMi, if_pos h]
  dsimp only
  rw [if_pos (Or.inr hb)]
theorem mi_f {v : Sg} {st p : Nat} (h : sRs v st true (p / 24) (p % 24) = 0) (ha : (sMi v st p).2.2 = true) (hb : sPitch v st true (p / 24) (p % 24) ≤ (sMi v st p).2.1) : (sMi v st p).2.1 = (sMi v st (p + 1)).2.1 := by
  rw [sMi, if_pos h]
  dsimp only
  rw [if_neg]
  rintro (q | q)
  · rw [ha] at q; cases q
  · omega
theorem mi_t {v : Sg} {st p : Nat} (h : sRs v st true (p / 24) (p % 24) = 0) : (1 : Int) = bP ((sMi v st (p + 1)).2.2 = true) := by
  rw [sMi, if_pos h]
  rfl
theorem row_d : (List.range 8).all (fun a => (List.range 8).all fun i => decide (8 ≤ a + i) || (decide (sRow a i ||| 2 ^ (a + i) = sRow a (i + 1)) && decide (sRow a i < 256) && decide (sRow a (i + 1) < 256))) = true := by decide +kernel
theorem row_s {a i : Nat} (h : a + i < 8) : sRow a i ||| 2 ^ (a + i) = sRow a (i + 1) ∧ sRow a i < 256 ∧ sRow a (i + 1) < 256 := by
  have h1 := bc_r row_d (show a < 8 by omega)
  have h2 := bc_r h1 (show i < 8 by omega)
  have h3 : decide (8 ≤ a + i) = false := decide_eq_false (by omega)
  rw [h3, Bool.false_or, Bool.and_eq_true, Bool.and_eq_true, decide_eq_true_eq, decide_eq_true_eq, decide_eq_true_eq] at h2
  exact ⟨h2.1.1, h2.1.2, h2.2⟩
theorem row_lt {a n : Nat} (h : a + n ≤ 8) (hn : 0 < n) : sRow a n < 256 := by
  obtain ⟨i, rfl⟩ : ∃ i, n = i + 1 := ⟨n - 1, by omega⟩
  exact (row_s (a := a) (i := i) (by omega)).2.2
theorem row_o {a i : Nat} (h : a + i < 8) : vor ((sRow a i : Nat) : Int) (vshl 1 ((a + i : Nat) : Int)) = ((sRow a (i + 1) : Nat) : Int) := by
  obtain ⟨h1, h2, h3⟩ := row_s h
  have hp := nu_p2 (k := a + i) (by omega)
  have e : vshl 1 ((a + i : Nat) : Int) = ((2 ^ (a + i) : Nat) : Int) := by
    rw [nu_shl (by decide) (by omega) (by show 1 * 2 ^ (a + i) < _; omega)]
    show ((1 * 2 ^ (a + i) : Nat) : Int) = _
    rw [Nat.one_mul]
  rw [e, nu_or (by omega) (by omega) (Int.natCast_nonneg _) (Int.ofNat_le.mpr (Nat.le_trans hp (by decide))), Int.toNat_natCast, Int.toNat_natCast, h1]
