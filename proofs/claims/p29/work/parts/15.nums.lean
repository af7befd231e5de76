/-! ===== numbers: bits, rounding, ranges ===== -/
def bP (p : Prop) [Decidable p] : Int := if p then 1 else 0
theorem bP_t {p : Prop} [Decidable p] (h : p) : bP p = 1 := if_pos h
theorem bP_f {p : Prop} [Decidable p] (h : ¬ p) : bP p = 0 := if_neg h
theorem bP_01 (p : Prop) [Decidable p] : bP p = 0 ∨ bP p = 1 := by
  by_cases h : p
  · exact Or.inr (bP_t h)
  · exact Or.inl (bP_f h)
theorem bP_R (p : Prop) [Decidable p] : R32 (bP p) := by
  rcases bP_01 p with h | h <;> rw [h] <;> decide
theorem bP_0 {p : Prop} [Decidable p] : bP p = 0 ↔ ¬ p := by
  by_cases h : p
  · rw [bP_t h]; simp [h]
  · rw [bP_f h]; simp [h]
theorem bP_1 {p : Prop} [Decidable p] : bP p = 1 ↔ p := by
  by_cases h : p
  · rw [bP_t h]; simp [h]
  · rw [bP_f h]; simp [h]
theorem bP_n0 {p : Prop} [Decidable p] : ¬ bP p = 0 ↔ p := by rw [bP_0]; exact Decidable.not_not
theorem bP_congr {p q : Prop} [Decidable p] [Decidable q] (h : p ↔ q) : bP p = bP q := by
  by_cases hp : p
  · rw [bP_t hp, bP_t (h.mp hp)]
  · rw [bP_f hp, bP_f (fun hq => hp (h.mpr hq))]
def bt (z : Int) (k : Nat) : Bool := z.toNat.testBit k
theorem nu_of {z : Int} (h : 0 ≤ z) : Int32.ofInt z = nI z.toNat := by
  rw [nI, ← Int32.ofInt_eq_ofNat, Int.toNat_of_nonneg h]
theorem nu_nI {n : Nat} (h : n < 2147483648) : (nI n).toInt = (n : Int) := nI_toInt (by omega)
theorem nu_sh : ∀ n, n < 32 → ((nI n &&& 31).toBitVec.smod 32).toNat = n := by decide +kernel
theorem nu_1 : ((1 : Int32)).toBitVec.toNat = 2 ^ 1 - 1 := by decide
theorem nu_shr {z : Int} {k : Nat} (h0 : 0 ≤ z) (h1 : z ≤ 2147483647) (hk : k < 32) : vshr z (k : Int) = ((z.toNat / 2 ^ k : Nat) : Int) := by
  have hn : z.toNat < 2 ^ 31 := by omega
  unfold vshr
  rw [nu_of h0, nu_of (Int.natCast_nonneg k), Int.toNat_natCast, pk_shrN hn _ k (nu_sh k hk), nu_nI]
  exact Nat.lt_of_le_of_lt (Nat.div_le_self _ _) (by omega)
theorem nu_and {a b : Int} (h0 : 0 ≤ a) (h1 : a ≤ 2147483647) (h2 : 0 ≤ b) (h3 : b ≤ 2147483647) : vand a b = ((a.toNat &&& b.toNat : Nat) : Int) := by
  unfold vand
  rw [nu_of h0, nu_of h2]
  have e : nI a.toNat &&& nI b.toNat = nI (a.toNat &&& b.toNat) := by
    apply Int32.toBitVec.inj
    apply BitVec.eq_of_toNat_eq
    simp only [Int32.toBitVec_and, BitVec.toNat_and]
    rw [pk_tn (by omega), pk_tn (by omega), pk_tn (Nat.lt_of_le_of_lt Nat.and_le_left (by omega))]
  rw [e, nu_nI]
  exact Nat.lt_of_le_of_lt Nat.and_le_left (by omega)
theorem nu_or {a b : Int} (h0 : 0 ≤ a) (h1 : a ≤ 2147483647) (h2 : 0 ≤ b) (h3 : b ≤ 2147483647) : vor a b = ((a.toNat ||| b.toNat : Nat) : Int) := by
  unfold vor
  rw [nu_of h0, nu_of h2]
  have hlt : a.toNat ||| b.toNat < 2 ^ 31 := Nat.or_lt_two_pow (by omega) (by omega)
  have e : nI a.toNat ||| nI b.toNat = nI (a.toNat ||| b.toNat) := by
    apply Int32.toBitVec.inj
    apply BitVec.eq_of_toNat_eq
    simp only [Int32.toBitVec_or, BitVec.toNat_or]
    rw [pk_tn (by omega), pk_tn (by omega), pk_tn (by omega)]
  rw [e, nu_nI (by omega)]
theorem nu_shl {z : Int} {k : Nat} (h0 : 0 ≤ z) (hk : k < 32) (h : z.toNat * 2 ^ k < 2 ^ 31) : vshl z (k : Int) = ((z.toNat * 2 ^ k : Nat) : Int) := by
  unfold vshl
  rw [nu_of h0, nu_of (Int.natCast_nonneg k), Int.toNat_natCast, pk_shlN _ k (nu_sh k hk) (by omega), nu_nI (by omega)]
theorem nu_bit {z : Int} {k : Nat} (h0 : 0 ≤ z) (h1 : z ≤ 2147483647) (hk : k < 32) : vand (vshr z (k : Int)) 1 = bP (bt z k = true) := by
  rw [nu_shr h0 h1 hk, nu_and (Int.natCast_nonneg _) (by have := Nat.div_le_self z.toNat (2 ^ k); omega) (by decide) (by decide), Int.toNat_natCast]
  show ((z.toNat / 2 ^ k &&& 1 : Nat) : Int) = _
  rw [Nat.and_one_is_mod, bt, Nat.testBit_eq_decide_div_mod_eq]
  unfold bP
  have := Nat.mod_two_eq_zero_or_one (z.toNat / 2 ^ k)
  rcases this with h | h <;> simp [h]
def wth (s k : Nat) (on : Bool) : Nat := if on then s ||| 2 ^ k else s &&& (4294967295 - 2 ^ k)
theorem wth_bit {s k : Nat} (on : Bool) (hk : k < 32) (j : Nat) (hj : j < 32) : (wth s k on).testBit j = if j = k then on else s.testBit j := by
  unfold wth
  cases on with
  | true =>
    simp only [if_true, Nat.testBit_or, Nat.testBit_two_pow]
    by_cases h : j = k
    · subst h; simp
    · have : ¬ k = j := fun e => h e.symm
      simp [h, this]
  | false =>
    have e : (4294967295 - 2 ^ k) = 2 ^ 32 - (2 ^ k + 1) := by omega
    simp only [Bool.false_eq_true, if_false, Nat.testBit_and]
    rw [e, Nat.testBit_two_pow_sub_succ (Nat.pow_lt_pow_right (by decide) hk), Nat.testBit_two_pow]
    by_cases h : j = k
    · subst h; simp
    · have : ¬ k = j := fun e => h e.symm
      simp [h, this, hj]
theorem wth_lt {s k : Nat} (on : Bool) (hs : s < 16777216) (hk : k < 24) : wth s k on < 16777216 := by
  unfold wth
  cases on with
  | true => exact Nat.or_lt_two_pow (n := 24) hs (Nat.pow_lt_pow_right (by decide) hk)
  | false => exact Nat.lt_of_le_of_lt Nat.and_le_left hs
theorem wth_lt8 {s k : Nat} (on : Bool) (hs : s < 256) (hk : k < 8) : wth s k on < 256 := by
  unfold wth
  cases on with
  | true => exact Nat.or_lt_two_pow (n := 8) hs (Nat.pow_lt_pow_right (by decide) hk)
  | false => exact Nat.lt_of_le_of_lt Nat.and_le_left hs
theorem nu_p2 {k : Nat} (hk : k < 31) : 2 ^ k ≤ 1073741824 := Nat.pow_le_pow_right (by decide) (show k ≤ 30 by omega)
theorem nu_on {z : Int} {k : Nat} (h0 : 0 ≤ z) (h1 : z ≤ 2147483647) (hk : k < 31) : vor z (vshl 1 (k : Int)) = ((wth z.toNat k true : Nat) : Int) := by
  have h2 := nu_p2 hk
  have e : vshl 1 (k : Int) = ((2 ^ k : Nat) : Int) := by
    rw [nu_shl (by decide) (by omega) (by show 1 * 2 ^ k < _; omega)]
    show ((1 * 2 ^ k : Nat) : Int) = _
    rw [Nat.one_mul]
  rw [e, nu_or h0 h1 (Int.natCast_nonneg _) (by omega), Int.toNat_natCast]
  rfl
theorem nu_off {z : Int} {k : Nat} (h0 : 0 ≤ z) (h1 : z ≤ 2147483647) (hk : k < 31) : vand z (vxor (vshl 1 (k : Int)) (-1)) = ((wth z.toNat k false : Nat) : Int) := by
  have h2 := nu_p2 hk
  have e : vshl 1 (k : Int) = ((2 ^ k : Nat) : Int) := by
    rw [nu_shl (by decide) (by omega) (by show 1 * 2 ^ k < _; omega)]
    show ((1 * 2 ^ k : Nat) : Int) = _
    rw [Nat.one_mul]
  rw [e]
  unfold vand vxor
  rw [Int32.ofInt_toInt, nu_of h0, nu_of (Int.natCast_nonneg _), Int.toNat_natCast]
  have e2 : nI z.toNat &&& (nI (2 ^ k) ^^^ Int32.ofInt (-1)) = nI (wth z.toNat k false) := by
    apply Int32.toBitVec.inj
    apply BitVec.eq_of_toNat_eq
    have hx : (nI (2 ^ k) ^^^ Int32.ofInt (-1)).toBitVec = ~~~ (nI (2 ^ k)).toBitVec := by
      have hm : (Int32.ofInt (-1)).toBitVec = BitVec.allOnes 32 := by decide
      rw [Int32.toBitVec_xor, hm, BitVec.xor_allOnes]
    have hw : wth z.toNat k false < 2 ^ 32 := by
      simp only [wth, Bool.false_eq_true, if_false]
      exact Nat.lt_of_le_of_lt Nat.and_le_left (by omega)
    rw [Int32.toBitVec_and, hx, BitVec.toNat_and, BitVec.toNat_not, pk_tn (by omega), pk_tn (by omega), pk_tn hw]
    simp only [wth, Bool.false_eq_true, if_false]
  rw [e2, nu_nI]
  exact Nat.lt_of_le_of_lt Nat.and_le_left (by omega)
/-- division of whole numbers, rounded down, by the machine's -/
theorem nu_tdiv {a b : Int} (ha : 0 ≤ a) : a.tdiv b = a / b := Int.tdiv_eq_ediv_of_nonneg ha
theorem nu_fdiv {a b : Int} (hb : 0 < b) : a / b = if a.tmod b < 0 then a.tdiv b - 1 else a.tdiv b := by
  by_cases h0 : 0 ≤ a
  · rw [Int.tdiv_eq_ediv_of_nonneg h0, Int.tmod_eq_emod_of_nonneg h0, if_neg]
    have := Int.emod_nonneg a (show b ≠ 0 by omega)
    omega
  · have e1 : a.tdiv b = -((-a) / b) := by
      rw [← Int.tdiv_eq_ediv_of_nonneg (show 0 ≤ -a by omega), Int.neg_tdiv, Int.neg_neg]
    have e2 : a.tmod b = -((-a) % b) := by
      rw [← Int.tmod_eq_emod_of_nonneg (show 0 ≤ -a by omega), Int.neg_tmod, Int.neg_neg]
    rw [e1, e2]
    have h1 := Int.emod_nonneg (-a) (show b ≠ 0 by omega)
    have h2 := Int.emod_lt_of_pos (-a) hb
    have h3 := Int.mul_ediv_add_emod (-a) b
    have h4 := Int.mul_ediv_add_emod a b
    have h5 := Int.emod_nonneg a (show b ≠ 0 by omega)
    have h6 := Int.emod_lt_of_pos a hb
    generalize (-a) / b = q at *
    generalize (-a) % b = r at *
    generalize a / b = q2 at *
    generalize a % b = r2 at *
    by_cases hr : r = 0
    · rw [if_neg (by omega)]
      subst hr
      have h7 : b * (q + q2) + r2 = 0 := by rw [Int.mul_add]; omega
      have h8 : q + q2 = 0 := by
        rcases Int.lt_trichotomy (q + q2) 0 with h | h | h
        · have := Int.mul_le_mul_of_nonneg_left (show q + q2 ≤ -1 by omega) (show 0 ≤ b by omega)
          omega
        · exact h
        · have := Int.mul_le_mul_of_nonneg_left (show 1 ≤ q + q2 by omega) (show 0 ≤ b by omega)
          omega
      omega
    · rw [if_pos (by omega)]
      have h7 : b * (q + q2) + (r + r2) = 0 := by rw [Int.mul_add]; omega
      have h8 : q + q2 = -1 := by
        rcases Int.lt_trichotomy (q + q2) (-1) with h | h | h
        · have := Int.mul_le_mul_of_nonneg_left (show q + q2 ≤ -2 by omega) (show 0 ≤ b by omega)
          omega
        · exact h
        · have := Int.mul_le_mul_of_nonneg_left (show 0 ≤ q + q2 by omega) (show 0 ≤ b by omega)
          omega
      omega
theorem nu_xs {a b : Int} (ha : R32 a) (hb : 0 ≤ b ∧ b ≤ 2147483647) : (vxor a b < 0) ↔ a < 0 := by
  have key : ∀ z : Int32, z.toInt < 0 ↔ z.toBitVec.msb = true := fun z => by
    show z.toBitVec.toInt < 0 ↔ _
    rw [BitVec.msb_eq_toInt]
    simp
  unfold vxor
  rw [key, Int32.toBitVec_xor, BitVec.msb_xor]
  have h1 := key (Int32.ofInt a)
  have h2 := key (Int32.ofInt b)
  rw [Int32.toInt_ofInt_of_le (by omega) (by omega)] at h1 h2
  have hb2 : (Int32.ofInt b).toBitVec.msb = false := by
    cases h : (Int32.ofInt b).toBitVec.msb with
    | false => rfl
    | true => have := h2.mpr h; omega
  rw [hb2, Bool.xor_false]
  exact h1.symm
theorem vRo_of {R : Room} {f lo mL F LO : Nat} (h : R = rmo F LO) (h1 : f + 1 ≤ F) (h2 : 8 + (mL + 11) + lo ≤ LO) : vRo f lo mL R := by
  subst h; exact ⟨h1, h2⟩
