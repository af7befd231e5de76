/-! ===== the twin: checksum ===== -/
def cA (v : Sg) : Nat → Int
  | 0 => 151
  | k + 1 => 31 * cA v k + vw (v (24 + k))
def cB (v : Sg) : Nat → Int
  | 0 => cA v 40
  | k + 1 => 31 * cB v k + vw (v (1 + k))
def cC (v : Sg) : Nat → Int
  | 0 => cB v 9
  | k + 1 => 31 * cC v k + vw (sTell v k)
def cD (v : Sg) : Nat → Int
  | 0 => cC v 10
  | q + 1 => 31 * cD v q + vw (sCh v (q / 3) (q % 3))
def cE (v : Sg) : Int := 31 * (31 * cD v 6 + vw (v 18)) + vw (v 19)
def cP (v : Sg) (h : Int) (s k : Nat) : Int := 31 * (31 * (31 * (31 * (31 * (31 * (31 * h + vw (100 * (s : Int) + (k : Int))) + vw (sNeed v s k)) + vw (v (64 + (24 * s + k)))) + vw (sAs v (sDrw v) true (24 * s + k))) + vw (sGt v (sDrw v) true (24 * s + k))) + vw (sPitch v (sDrw v) true s k)) + vw (sRs v (sDrw v) true s k)
def cF (v : Sg) : Nat → Int
  | 0 => cE v
  | p + 1 => if (sOpn v (sDrw v) true (p / 24)).testBit (p % 24) = true then cP v (cF v p) (p / 24) (p % 24) else cF v p
def sSum (v : Sg) : Int := 31 * (31 * (31 * cF v 192 + vw (sMist v)) + vw (sSearch v 0)) + vw (sSearch v 1)
theorem cD_s (v : Sg) (m : Nat) {w : Nat} (hw : w < 3) : cD v (3 * m + (w + 1)) = 31 * cD v (3 * m + w) + vw (sCh v m w) := by
  rw [← Nat.add_assoc, cD, show (3 * m + w) / 3 = m by omega, show (3 * m + w) % 3 = w by omega]
theorem cF_t {v : Sg} {s k : Nat} (hk : k < 24) (h : (sOpn v (sDrw v) true s).testBit k = true) : cP v (cF v (24 * s + k)) s k = cF v (24 * s + (k + 1)) := by
  rw [← Nat.add_assoc, cF, (p_div hk).1, (p_div hk).2, if_pos h]
theorem cF_e {v : Sg} {s k : Nat} (hk : k < 24) (h : ¬ (sOpn v (sDrw v) true s).testBit k = true) : cF v (24 * s + k) = cF v (24 * s + (k + 1)) := by
  rw [← Nat.add_assoc, cF, (p_div hk).1, (p_div hk).2, if_neg h]
