/-! ===== the twin: the questions with any arguments ===== -/
def aStop (v : Sg) (a b : Int) : Int := if 0 ≤ a ∧ a ≤ 7 then (if 0 ≤ b ∧ b ≤ 4 then v (24 + 5 * a.toNat + b.toNat) else -1000002) else -1000001
def aStrokes (v : Sg) (a : Int) : Int := if 0 ≤ a ∧ a ≤ 1 then v (18 + a.toNat) else -1000001
def aTell (v : Sg) (a : Int) : Int := if 0 ≤ a ∧ a ≤ 9 then sTell v a.toNat else -1000001
def aChest (v : Sg) (a b : Int) : Int := if 0 ≤ a ∧ a ≤ 1 then (if 0 ≤ b ∧ b ≤ 2 then sCh v a.toNat b.toNat else -1000002) else -1000001
def aPipe (v : Sg) (a b c : Int) : Int := if 0 ≤ a ∧ a ≤ 7 then (if 0 ≤ b ∧ b ≤ 23 then (if 0 ≤ c ∧ c ≤ 4 then sPi v a.toNat b.toNat c.toNat else -1000002) else -1000001) else -1000001
def aReason (v : Sg) (a b : Int) : Int := if 0 ≤ a ∧ a ≤ 7 then (if 0 ≤ b ∧ b ≤ 23 then sRs v (sDrw v) true a.toNat b.toNat else -1000001) else -1000001
def aSearch (v : Sg) (a : Int) : Int := if 0 ≤ a ∧ a ≤ 2 then sSearch v a.toNat else -1000001
def sRob (v : Sg) (st2 : Nat) : Nat → Nat
  | 0 => 0
  | p + 1 => sRob v st2 p + (if sRs v (sDrw v) true (p / 24) (p % 24) = 0 ∧ ¬ sRs v st2 true (p / 24) (p % 24) = 0 then 1 else 0)
def aRob (v : Sg) (a : Int) : Int := if 0 ≤ a ∧ a ≤ 7 then (if (sDrw v).testBit a.toNat = true then -1000003 else ((sRob v (sDrw v ||| 2 ^ a.toNat) 192 : Nat) : Int)) else -1000001
theorem ro_o {v : Sg} (hI : sInv v) {s : Nat} (hs : s < 8) : vor ((sDrw v : Nat) : Int) (vshl 1 (s : Int)) = ((sDrw v ||| 2 ^ s : Nat) : Int) ∧ (sDrw v ||| 2 ^ s) < 256 := by
  have hd := sDrw_lt hI
  have hp : 2 ^ s < 2 ^ 8 := Nat.pow_lt_pow_right (by decide) hs
  have e : vshl 1 ((s : Nat) : Int) = ((2 ^ s : Nat) : Int) := by
    rw [nu_shl (by decide) (by omega) (by show 1 * 2 ^ s < _; omega)]
    show ((1 * 2 ^ s : Nat) : Int) = _
    rw [Nat.one_mul]
  refine ⟨?_, Nat.or_lt_two_pow (n := 8) hd hp⟩
  rw [e, nu_or (by omega) (by omega) (Int.natCast_nonneg _) (by omega), Int.toNat_natCast, Int.toNat_natCast]
theorem ro_1 {v : Sg} {st2 p : Nat} (h1 : sRs v (sDrw v) true (p / 24) (p % 24) = 0) (h2 : ¬ sRs v st2 true (p / 24) (p % 24) = 0) : ((sRob v st2 p : Nat) : Int) + 1 = ((sRob v st2 (p + 1) : Nat) : Int) := by rw [sRob, if_pos ⟨h1, h2⟩]; omega
theorem ro_2 {v : Sg} {st2 p : Nat} (h1 : ¬ sRs v (sDrw v) true (p / 24) (p % 24) = 0) : ((sRob v st2 p : Nat) : Int) + 0 = ((sRob v st2 (p + 1) : Nat) : Int) := by rw [sRob, if_neg (fun h => h1 h.1)]; omega
theorem ro_3 {v : Sg} {st2 p : Nat} (h2 : sRs v st2 true (p / 24) (p % 24) = 0) : ((sRob v st2 p : Nat) : Int) + 0 = ((sRob v st2 (p + 1) : Nat) : Int) := by rw [sRob, if_neg (fun h => h.2 h2)]; omega
theorem fr_mono {L L2 : List Nat} {M M2 : Mem} (h : fr L M M2) (hs : ∀ i, i ∈ L → i ∈ L2) : fr L2 M M2 := ⟨h.1, fun i hi => h.2 i (fun e => hi (hs i e))⟩
theorem SC.keep {v : Sg} {st : Nat} {pr : Bool} {M M' : Mem} (h : SC v st pr M) (e : ∀ i, 120 ≤ i → i < 126 → M'.1 i = M.1 i) : SC v st pr M' := by
  unfold SC SC4 at *
  rw [e 120 (by decide) (by decide), e 121 (by decide) (by decide), e 122 (by decide) (by decide), e 123 (by decide) (by decide), e 124 (by decide) (by decide), e 125 (by decide) (by decide)]
  exact h
theorem ro_p {v : Sg} {f : Nat → Nat → Int} {p : Nat} {z : Int} (hp : ∀ q, q < p → f 126 q = bP (sRs v (sDrw v) true (q / 24) (q % 24) = 0)) (hz : z = bP (sRs v (sDrw v) true (p / 24) (p % 24) = 0)) : ∀ q, q < p + 1 → vup f 126 p z 126 q = bP (sRs v (sDrw v) true (q / 24) (q % 24) = 0) := by
  intro q hq
  rw [vup_in]
  by_cases h : q = p
  · rw [if_pos h, hz, h]
  · rw [if_neg h]
    exact hp q (by omega)
