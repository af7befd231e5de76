/-! ===== the twin: acts, the text ===== -/
def aP (L : Nat → Int) (t p : Nat) (M0 : Mem) (r : Option AV) (M' : Mem) : Prop := r = some (aI (bP ((pA L t p).1 = true))) ∧ ∃ f n : Int, tK M0 M' (pA L t p).2 (tH L t p) f n ∧ ((pA L t p).1 = true → (tH L t p ≠ 116 → f = tH L t (p + 1) - 48) ∧ (tH L t p = 112 ∨ tH L t p = 108 → n = pNv L t (p + 2)) ∧ (tH L t p = 116 → n = pNv L t (p + 1)))
theorem aP.mk {L : Nat → Int} {t p q : Nat} {M0 M' : Mem} {b : Bool} {r : Option AV} {f n : Int} (e : pA L t p = (b, q)) (hr : r = some (aI (bP (b = true)))) (hK : tK M0 M' q (tH L t p) f n) (h : b = true → (tH L t p ≠ 116 → f = tH L t (p + 1) - 48) ∧ (tH L t p = 112 ∨ tH L t p = 108 → n = pNv L t (p + 2)) ∧ (tH L t p = 116 → n = pNv L t (p + 1))) : aP L t p M0 r M' := by
  rw [aP, e]
  exact ⟨hr, f, n, hK, h⟩
section PA
variable {L : Nat → Int} {t p : Nat}
theorem pA_dr (h : tH L t p = 100 ∨ tH L t p = 114) : pA L t p = (decide (0 ≤ tH L t (p + 1) - 48 ∧ tH L t (p + 1) - 48 ≤ 7), if 0 ≤ tH L t (p + 1) - 48 ∧ tH L t (p + 1) - 48 ≤ 7 then p + 1 + 1 else p + 1) := by
  unfold pA
  rw [if_pos h]
  split
  · rw [decide_eq_true ‹_›]
  · rw [decide_eq_false ‹_›]
theorem pA_p1 (h : tH L t p = 112 ∨ tH L t p = 108) (h1 : ¬ (0 ≤ tH L t (p + 1) - 48 ∧ tH L t (p + 1) - 48 ≤ 1)) : pA L t p = (false, p + 1) := by
  unfold pA
  rw [if_neg (by omega), if_pos h, if_neg h1]
theorem pA_p2 (h : tH L t p = 112 ∨ tH L t p = 108) (h1 : 0 ≤ tH L t (p + 1) - 48 ∧ tH L t (p + 1) - 48 ≤ 1) (h2 : ¬ pOk L t (p + 2) 0 23) : pA L t p = (false, p + 2) := by
  unfold pA
  rw [if_neg (by omega), if_pos h, if_pos h1, if_neg h2]
theorem pA_p3 (h : tH L t p = 112 ∨ tH L t p = 108) (h1 : 0 ≤ tH L t (p + 1) - 48 ∧ tH L t (p + 1) - 48 ≤ 1) (h2 : pOk L t (p + 2) 0 23) (h3 : ¬ tH L t (p + 2 + pNl L t (p + 2)) = 59) : pA L t p = (false, p + 2 + pNl L t (p + 2)) := by
  unfold pA
  rw [if_neg (by omega), if_pos h, if_pos h1, if_pos h2, if_neg h3]
theorem pA_p4 (h : tH L t p = 112 ∨ tH L t p = 108) (h1 : 0 ≤ tH L t (p + 1) - 48 ∧ tH L t (p + 1) - 48 ≤ 1) (h2 : pOk L t (p + 2) 0 23) (h3 : tH L t (p + 2 + pNl L t (p + 2)) = 59) : pA L t p = (true, p + 2 + pNl L t (p + 2) + 1) := by
  unfold pA
  rw [if_neg (by omega), if_pos h, if_pos h1, if_pos h2, if_pos h3]
theorem pA_t2 (h : tH L t p = 116) (h2 : ¬ pOk L t (p + 1) 1 200) : pA L t p = (false, p + 1) := by
  unfold pA
  rw [if_neg (by omega), if_neg (by omega), if_pos h, if_neg h2]
theorem pA_t3 (h : tH L t p = 116) (h2 : pOk L t (p + 1) 1 200) (h3 : ¬ tH L t (p + 1 + pNl L t (p + 1)) = 59) : pA L t p = (false, p + 1 + pNl L t (p + 1)) := by
  unfold pA
  rw [if_neg (by omega), if_neg (by omega), if_pos h, if_pos h2, if_neg h3]
theorem pA_t4 (h : tH L t p = 116) (h2 : pOk L t (p + 1) 1 200) (h3 : tH L t (p + 1 + pNl L t (p + 1)) = 59) : pA L t p = (true, p + 1 + pNl L t (p + 1) + 1) := by
  unfold pA
  rw [if_neg (by omega), if_neg (by omega), if_pos h, if_pos h2, if_pos h3]
theorem pA_0 (h1 : ¬ tH L t p = 100) (h2 : ¬ tH L t p = 114) (h3 : ¬ tH L t p = 112) (h4 : ¬ tH L t p = 108) (h5 : ¬ tH L t p = 116) : pA L t p = (false, p) := by
  unfold pA
  rw [if_neg (by omega), if_neg (by omega), if_neg h5]
end PA
