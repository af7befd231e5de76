/-! ===== counting bits; the octave coupler's bits ===== -/
def pcf : Nat → Nat → Nat
  | 0, _ => 0
  | n + 1, z => z % 2 + pcf n (z / 2)
def pc (z : Nat) : Nat := pcf 24 z
theorem pcf_le : ∀ n z, pcf n z ≤ n
  | 0, _ => Nat.le_refl _
  | n + 1, z => by
    have := pcf_le n (z / 2)
    simp only [pcf]
    omega
theorem pcf_0 : ∀ n, pcf n 0 = 0
  | 0 => rfl
  | n + 1 => by simp [pcf, pcf_0 n]
theorem and_pred_odd (m : Nat) : (2 * m + 1) &&& (2 * m) = 2 * m := by
  apply Nat.eq_of_testBit_eq
  intro i
  rw [Nat.testBit_and]
  cases i with
  | zero => simp
  | succ i =>
    rw [Nat.testBit_succ, Nat.testBit_succ, show (2 * m + 1) / 2 = m by omega, show 2 * m / 2 = m by omega, Bool.and_self]
theorem and_pred_even {m : Nat} (h : 0 < m) : (2 * m) &&& (2 * m - 1) = 2 * (m &&& (m - 1)) := by
  apply Nat.eq_of_testBit_eq
  intro i
  rw [Nat.testBit_and]
  cases i with
  | zero => simp
  | succ i =>
    rw [Nat.testBit_succ, Nat.testBit_succ, Nat.testBit_succ, show 2 * m / 2 = m by omega, show (2 * m - 1) / 2 = m - 1 by omega, show 2 * (m &&& (m - 1)) / 2 = m &&& (m - 1) by omega, Nat.testBit_and]
theorem pcf_step : ∀ n z, 0 < z → z < 2 ^ n → pcf n (z &&& (z - 1)) + 1 = pcf n z
  | 0, z, h0, h => by simp at h; omega
  | n + 1, z, h0, h => by
    rw [Nat.pow_succ] at h
    rcases Nat.mod_two_eq_zero_or_one z with e | e
    · have hz : z = 2 * (z / 2) := by omega
      have h2 : 0 < z / 2 := by omega
      have key := and_pred_even h2
      rw [← hz] at key
      rw [key, pcf, pcf, Nat.mul_mod_right, Nat.mul_div_cancel_left _ (by decide), Nat.zero_add, pcf_step n (z / 2) h2 (by omega)]
      omega
    · have hz : z = 2 * (z / 2) + 1 := by omega
      have key := and_pred_odd (z / 2)
      rw [← hz] at key
      have h3 : z - 1 = 2 * (z / 2) := by omega
      rw [h3, key, pcf, pcf, Nat.mul_mod_right, Nat.mul_div_cancel_left _ (by decide)]
      omega
theorem pcf_bits : ∀ n z, pcf n z = (List.range n).countP (fun i => z.testBit i)
  | 0, _ => rfl
  | n + 1, z => by
    rw [pcf, pcf_bits n (z / 2), List.range_succ_eq_map, List.countP_cons, List.countP_map]
    have e : ((fun i => z.testBit i) ∘ Nat.succ) = fun i => (z / 2).testBit i := by
      funext i
      show z.testBit (i + 1) = _
      rw [Nat.testBit_succ]
    rw [e, Nat.testBit_zero]
    rcases Nat.mod_two_eq_zero_or_one z with h | h <;> simp [h] <;> omega
theorem pcf_add : ∀ n m z, pcf (n + m) z = pcf n z + pcf m (z / 2 ^ n)
  | 0, m, z => by simp [pcf]
  | n + 1, m, z => by
    rw [show n + 1 + m = (n + m) + 1 by omega, pcf, pcf, pcf_add n m (z / 2), Nat.div_div_eq_div_mul, Nat.pow_succ, Nat.mul_comm (2 ^ n) 2]
    omega
theorem pcf_mod : ∀ n z, pcf n (z % 2 ^ n) = pcf n z
  | 0, _ => rfl
  | n + 1, z => by
    rw [pcf, pcf, Nat.pow_succ, Nat.mul_comm, Nat.mod_mul_right_div_self, pcf_mod n (z / 2), Nat.mod_mul_right_mod]
theorem pc_0 : pc 0 = 0 := pcf_0 24
theorem pc_le (z : Nat) : pc z ≤ 24 := pcf_le 24 z
/-- the twin's step: the lowest bit goes -/
theorem nu_low {z : Int} (h0 : 0 < z) (h1 : z < 16777216) : vand z (z - 1) = ((z.toNat &&& (z.toNat - 1) : Nat) : Int) := by
  rw [nu_and (by omega) (by omega) (by omega) (by omega), show (z - 1).toNat = z.toNat - 1 by omega]
/-! the JDK's bitCount, by fields -/
theorem and_256 {a b c d : Nat} (hb : b < 256) (hd : d < 256) : (256 * a + b) &&& (256 * c + d) = 256 * (a &&& c) + (b &&& d) := by
  apply Nat.eq_of_testBit_eq
  intro i
  have e := @Nat.testBit_two_pow_mul_add
  rw [Nat.testBit_and, show (256 : Nat) = 2 ^ 8 from rfl, e a hb i, e c hd i, e (a &&& c) (Nat.lt_of_le_of_lt Nat.and_le_left hb) i, Nat.testBit_and, Nat.testBit_and]
  by_cases h : i < 8 <;> simp [h]
def bc1 (m z : Nat) : Nat := z - (z / 2 &&& m)
def bc2 (m z : Nat) : Nat := (z &&& m) + (z / 4 &&& m)
def bc3 (m z : Nat) : Nat := (z + z / 16) &&& m
theorem bc_t0 : (List.range 256).all (fun z => decide (128 + z / 2 < 256) && decide ((128 + z / 2) &&& 85 = z / 2 &&& 85) && decide (bc1 85 z < 256)) = true := by decide +kernel
theorem bc_t1 : (List.range 256).all (fun z => (List.range 4).all fun r => decide ((64 * r + z / 4) &&& 51 = z / 4 &&& 51)) = true := by decide +kernel
theorem bc_t2 : (List.range 256).all (fun z => decide (bc2 51 (bc1 85 z) ≤ 68) && decide (bc2 51 (bc1 85 z) % 16 ≤ 4) && decide (bc3 15 (bc2 51 (bc1 85 z)) = pcf 8 z)) = true := by decide +kernel
theorem bc_t3 : (List.range 69).all (fun z => (List.range 5).all fun r => decide ((z + (16 * r + z / 16)) &&& 15 = (z + z / 16) &&& 15)) = true := by decide +kernel
theorem bc_r {n : Nat} {p : Nat → Bool} (h : (List.range n).all p = true) {z : Nat} (hz : z < n) : p z = true := List.all_eq_true.mp h z (List.mem_range.mpr hz)
theorem bc_1 (m h : Nat) {l : Nat} (hl : l < 256) : bc1 (256 * m + 85) (256 * h + l) = 256 * bc1 m h + bc1 85 l := by
  have t := bc_r bc_t0 hl
  simp only [Bool.and_eq_true, decide_eq_true_eq] at t
  unfold bc1
  have hle : (h / 2 &&& m) ≤ h := Nat.le_trans Nat.and_le_left (Nat.div_le_self _ _)
  have hle2 : (l / 2 &&& 85) ≤ l := Nat.le_trans Nat.and_le_left (Nat.div_le_self _ _)
  have e : (256 * h + l) / 2 = 256 * (h / 2) + (128 * (h % 2) + l / 2) := by omega
  rw [e, and_256 (by omega) (by decide)]
  have e2 : (128 * (h % 2) + l / 2) &&& 85 = l / 2 &&& 85 := by
    rcases Nat.mod_two_eq_zero_or_one h with q | q <;> rw [q]
    · simp
    · exact t.1.2
  rw [e2]
  omega
theorem bc_2 (m h : Nat) {l : Nat} (hl : l < 256) : bc2 (256 * m + 51) (256 * h + l) = 256 * bc2 m h + bc2 51 l := by
  unfold bc2
  have e : (256 * h + l) / 4 = 256 * (h / 4) + (64 * (h % 4) + l / 4) := by omega
  rw [e, and_256 hl (by decide), and_256 (by omega) (by decide)]
  have t := bc_r bc_t1 hl
  have t2 := bc_r t (show h % 4 < 4 by omega)
  simp only [decide_eq_true_eq] at t2
  rw [t2]
  omega
theorem bc_3 (m h : Nat) {l : Nat} (hl : l ≤ 68) (hh : h % 16 ≤ 4) : bc3 (256 * m + 15) (256 * h + l) = 256 * bc3 m h + bc3 15 l := by
  unfold bc3
  have e : (256 * h + l) + (256 * h + l) / 16 = 256 * (h + h / 16) + (l + (16 * (h % 16) + l / 16)) := by omega
  rw [e, and_256 (by omega) (by decide)]
  have t := bc_r bc_t3 (show l < 69 by omega)
  have t2 := bc_r t (show h % 16 < 5 by omega)
  simp only [decide_eq_true_eq] at t2
  rw [t2]
theorem bc_all {z : Nat} (hz : z < 16777216) : bc3 252645135 (bc2 858993459 (bc1 1431655765 z)) = 65536 * pcf 8 (z / 65536) + 256 * pcf 8 (z / 256 % 256) + pcf 8 (z % 256) := by
  have ea := bc_r bc_t2 (show z / 65536 < 256 by omega)
  have eb := bc_r bc_t2 (show z / 256 % 256 < 256 by omega)
  have ec := bc_r bc_t2 (show z % 256 < 256 by omega)
  have da := bc_r bc_t0 (show z / 65536 < 256 by omega)
  have db := bc_r bc_t0 (show z / 256 % 256 < 256 by omega)
  have dc := bc_r bc_t0 (show z % 256 < 256 by omega)
  simp only [Bool.and_eq_true, decide_eq_true_eq] at ea eb ec da db dc
  have hz3 : z = 256 * (256 * (z / 65536) + z / 256 % 256) + z % 256 := by omega
  have hbyte : ∀ (M m x : Nat), x < 256 → M = 256 * m + 85 → bc1 M x = bc1 85 x := by
    intro M m x hx hM
    have := bc_1 m 0 hx
    rw [Nat.mul_zero, Nat.zero_add] at this
    rw [hM, this]
    simp [bc1]
  have hbyte2 : ∀ (M m x : Nat), x < 256 → M = 256 * m + 51 → bc2 M x = bc2 51 x := by
    intro M m x hx hM
    have := bc_2 m 0 hx
    rw [Nat.mul_zero, Nat.zero_add] at this
    rw [hM, this]
    simp [bc2]
  have hbyte3 : ∀ (M m x : Nat), x ≤ 68 → M = 256 * m + 15 → bc3 M x = bc3 15 x := by
    intro M m x hx hM
    have := bc_3 m 0 hx (by decide)
    rw [Nat.mul_zero, Nat.zero_add] at this
    rw [hM, this]
    simp [bc3]
  have s1 : bc1 1431655765 z = 256 * (256 * bc1 85 (z / 65536) + bc1 85 (z / 256 % 256)) + bc1 85 (z % 256) := by
    rw [show (1431655765 : Nat) = 256 * 5592405 + 85 from rfl]
    conv => lhs; rw [hz3]
    rw [bc_1 _ _ (by omega), show (5592405 : Nat) = 256 * 21845 + 85 from rfl, bc_1 _ _ (by omega), hbyte 21845 85 _ (by omega) rfl]
  have s2 : bc2 858993459 (bc1 1431655765 z) = 256 * (256 * bc2 51 (bc1 85 (z / 65536)) + bc2 51 (bc1 85 (z / 256 % 256))) + bc2 51 (bc1 85 (z % 256)) := by
    rw [s1, show (858993459 : Nat) = 256 * 3355443 + 51 from rfl, bc_2 _ _ dc.2, show (3355443 : Nat) = 256 * 13107 + 51 from rfl, bc_2 _ _ db.2, hbyte2 13107 51 _ da.2 rfl]
  rw [s2, show (252645135 : Nat) = 256 * 986895 + 15 from rfl, bc_3 _ _ ec.1.1 (by omega), show (986895 : Nat) = 256 * 3855 + 15 from rfl, bc_3 _ _ eb.1.1 ea.1.2, hbyte3 3855 15 _ ea.1.1 rfl, ea.2, eb.2, ec.2]
  omega
theorem bc_end {z : Nat} (hz : z < 16777216) : ∀ x, x = bc3 252645135 (bc2 858993459 (bc1 1431655765 z)) → (x + x / 256) + (x + x / 256) / 65536 &&& 63 = pc z := by
  intro x hx
  have h1 := pcf_le 8 (z / 65536)
  have h2 := pcf_le 8 (z / 256 % 256)
  have h3 := pcf_le 8 (z % 256)
  rw [bc_all hz] at hx
  have e : pc z = pcf 8 (z % 256) + pcf 8 (z / 256 % 256) + pcf 8 (z / 65536) := by
    show pcf (8 + (8 + 8)) z = _
    rw [pcf_add 8 (8 + 8), pcf_add 8 8, Nat.div_div_eq_div_mul]
    have q1 : pcf 8 (z % 256) = pcf 8 z := pcf_mod 8 z
    have q2 : pcf 8 (z / 256 % 256) = pcf 8 (z / 256) := pcf_mod 8 (z / 256)
    show pcf 8 z + (pcf 8 (z / 256) + pcf 8 (z / 65536)) = _
    rw [q1, q2]
    omega
  rw [e]
  generalize pcf 8 (z / 65536) = A at *
  generalize pcf 8 (z / 256 % 256) = B at *
  generalize pcf 8 (z % 256) = C at *
  have y1 : x + x / 256 = 65536 * A + 256 * (A + B) + (B + C) := by omega
  rw [y1]
  have y2 : (65536 * A + 256 * (A + B) + (B + C)) / 65536 = A := by omega
  rw [y2, show (63 : Nat) = 2 ^ 6 - 1 from rfl, Nat.and_two_pow_sub_one_eq_mod]
  omega
theorem nu_ushr {z : Int} {k : Nat} (h0 : 0 ≤ z) (h1 : z ≤ 2147483647) (hk : k < 32) : vushr z (k : Int) = ((z.toNat / 2 ^ k : Nat) : Int) := by
  unfold vushr
  have hs : ∀ n, n < 32 → (((nI n).toUInt32 &&& Int32.toUInt32 31).toBitVec % 32).toNat = n := by decide +kernel
  rw [nu_of h0, nu_of (Int.natCast_nonneg k), Int.toNat_natCast, pk_ushrN (by omega) _ k (hs k hk), nu_nI]
  exact Nat.lt_of_le_of_lt (Nat.div_le_self _ _) (by omega)
/-- the octave coupler: pressed keys and those twelve higher -/
def kOct (f : Nat) : Nat := (f ||| (f * 4096 % 4294967296)) &&& 16777215
theorem kOct_x {f : Nat} (h : f < 16777216) : f ||| (f * 4096 % 4294967296 &&& 16777215) = kOct f := by
  unfold kOct
  rw [Nat.and_or_distrib_right, show (16777215 : Nat) = 2 ^ 24 - 1 from rfl, Nat.and_two_pow_sub_one_eq_mod f, Nat.mod_eq_of_lt h]
theorem kOct_lt (f : Nat) : kOct f < 16777216 := by
  unfold kOct
  rw [show (16777215 : Nat) = 2 ^ 24 - 1 from rfl, Nat.and_two_pow_sub_one_eq_mod]
  exact Nat.mod_lt _ (by decide)
theorem nu_shB {z : Int} (h0 : 0 ≤ z) (h1 : z < 16777216) : (Int32.ofInt (vshl z 12)).toBitVec.toNat = z.toNat * 4096 % 4294967296 := by
  unfold vshl
  rw [Int32.ofInt_toInt, pk_shl _ _ 12 (by decide), nu_of h0, pk_tn (by omega)]
theorem nu_cast {w : Int32} {n : Nat} (h : w.toBitVec.toNat = n) (hn : n < 2147483648) : w.toInt = (n : Int) := by
  have e : w = nI n := by
    apply Int32.toBitVec.inj
    apply BitVec.eq_of_toNat_eq
    rw [h, pk_tn (by omega)]
  rw [e, nu_nI hn]
theorem nu_octM {z : Int} (h0 : 0 ≤ z) (h1 : z < 16777216) : vand (vor z (vshl z 12)) 16777215 = (kOct z.toNat : Int) := by
  have hs := nu_shB h0 h1
  generalize vshl z 12 = w at hs
  unfold vand vor
  rw [Int32.ofInt_toInt]
  refine nu_cast ?_ (Nat.lt_trans (kOct_lt _) (by decide))
  rw [Int32.toBitVec_and, BitVec.toNat_and, Int32.toBitVec_or, BitVec.toNat_or, hs, nu_of h0, pk_tn (by omega)]
  rfl
theorem nu_octX {z : Int} (h0 : 0 ≤ z) (h1 : z < 16777216) : vor z (vand (vshl z 12) 16777215) = (kOct z.toNat : Int) := by
  have hs := nu_shB h0 h1
  generalize vshl z 12 = w at hs
  unfold vand vor
  rw [Int32.ofInt_toInt]
  refine nu_cast ?_ (Nat.lt_trans (kOct_lt _) (by decide))
  rw [Int32.toBitVec_or, BitVec.toNat_or, Int32.toBitVec_and, BitVec.toNat_and, hs, nu_of h0, pk_tn (by omega)]
  exact kOct_x (by omega)
theorem nu_noct {z : Int} (h0 : 0 ≤ z) (h1 : z < 16777216) : vand (vor z 0) 16777215 = z := by
  rw [nu_or h0 (by omega) (by decide) (by decide), nu_and (Int.natCast_nonneg _) (by simp; omega) (by decide) (by decide), Int.toNat_natCast]
  show (((z.toNat ||| 0) &&& 16777215 : Nat) : Int) = z
  rw [Nat.or_zero, show (16777215 : Nat) = 2 ^ 24 - 1 from rfl, Nat.and_two_pow_sub_one_eq_mod, Nat.mod_eq_of_lt (by omega)]
  omega
theorem nu_cp2 {z : Int} (h0 : 0 ≤ z) (h1 : z ≤ 3) : vand z 2 = 2 ↔ 2 ≤ z := by
  rcases (show z = 0 ∨ z = 1 ∨ z = 2 ∨ z = 3 by omega) with rfl | rfl | rfl | rfl <;> decide
theorem nu_cp1 {z : Int} (h0 : 0 ≤ z) (h1 : z ≤ 3) : vand z 1 = 1 ↔ z % 2 = 1 := by
  rcases (show z = 0 ∨ z = 1 ∨ z = 2 ∨ z = 3 by omega) with rfl | rfl | rfl | rfl <;> decide
theorem vand_R (a b : Int) : R32 (vand a b) := i32_T _
theorem vor_R (a b : Int) : R32 (vor a b) := i32_T _
theorem vshr_R (a b : Int) : R32 (vshr a b) := i32_T _
theorem vshl_R (a b : Int) : R32 (vshl a b) := i32_T _
