/-! ===== the twin: what there is, searches ===== -/
theorem rr_1 {v : Sg} {st : Nat} {pr : Bool} {s k : Nat} (h1 : ¬ st.testBit s = true) : (1 : Int) = sRs v st pr s k := by rw [sRs, if_pos (by simpa using h1)]
theorem rr_2 {v : Sg} {st : Nat} {pr : Bool} {s k : Nat} (h1 : st.testBit s = true) (h2 : ¬ (sOpn v st pr s).testBit k = true) : (2 : Int) = sRs v st pr s k := by rw [sRs, if_neg (by simpa using h1), if_pos (by simpa using h2)]
theorem rr_3 {v : Sg} {st : Nat} {pr : Bool} {s k : Nat} (h1 : st.testBit s = true) (h2 : (sOpn v st pr s).testBit k = true) (h3 : sPr v st pr (sMan v s) < v (24 + 5 * s + 2)) : (3 : Int) = sRs v st pr s k := by rw [sRs, if_neg (by simpa using h1), if_neg (by simpa using h2), if_pos h3]
theorem rr_4 {v : Sg} {st : Nat} {pr : Bool} {s k : Nat} (h1 : st.testBit s = true) (h2 : (sOpn v st pr s).testBit k = true) (h3 : v (24 + 5 * s + 2) ≤ sPr v st pr (sMan v s)) (h4 : sGt v st pr (24 * s + k) < sAs v st pr (24 * s + k)) : (4 : Int) = sRs v st pr s k := by rw [sRs, if_neg (by simpa using h1), if_neg (by simpa using h2), if_neg (by omega), if_pos h4]
theorem rr_5 {v : Sg} {st : Nat} {pr : Bool} {s k : Nat} (h1 : st.testBit s = true) (h2 : (sOpn v st pr s).testBit k = true) (h3 : v (24 + 5 * s + 2) ≤ sPr v st pr (sMan v s)) (h4 : sAs v st pr (24 * s + k) ≤ sGt v st pr (24 * s + k)) (h5 : sAs v st pr (24 * s + k) = 0) : (5 : Int) = sRs v st pr s k := by rw [sRs, if_neg (by simpa using h1), if_neg (by simpa using h2), if_neg (by omega), if_neg (by omega), if_pos h5]
theorem rr_0 {v : Sg} {st : Nat} {pr : Bool} {s k : Nat} (h1 : st.testBit s = true) (h2 : (sOpn v st pr s).testBit k = true) (h3 : v (24 + 5 * s + 2) ≤ sPr v st pr (sMan v s)) (h4 : sAs v st pr (24 * s + k) ≤ sGt v st pr (24 * s + k)) (h5 : ¬ sAs v st pr (24 * s + k) = 0) : (0 : Int) = sRs v st pr s k := by rw [sRs, if_neg (by simpa using h1), if_neg (by simpa using h2), if_neg (by omega), if_neg (by omega), if_neg h5]
theorem bn_R {v : Sg} (h : sInv v) {st : Nat} {pr : Bool} {s : Nat} (hs : s < 8) : R32 ((sPr v st pr (sMan v s) - v 1) * v 9) := by
  have h1 := sPr_b h st pr (sMan_lt h hs).1
  have h2 := iv_set h
  have h3 : (sPr v st pr (sMan v s) - v 1) * v 9 ≤ 0 := Int.mul_nonpos_of_nonpos_of_nonneg (by omega) (by omega)
  have h4 : (sPr v st pr (sMan v s) - v 1) * v 9 ≥ (-200) * v 9 := Int.mul_le_mul_of_nonneg_right (by omega) (by omega)
  omega
