/-! ===== the twin: what is open, asked for, got ===== -/
theorem dr_step {v : Sg} (hI : sInv v) {s : Nat} (hs : s < 8) : vor ((sDr v s : Nat) : Int) (vshl (v (24 + 5 * s + 3)) (s : Int)) = ((sDr v (s + 1) : Nat) : Int) := by
  have hq := (iv_st hI hs).2.2.2.1
  have hb := sDr_b hI s (by omega)
  have hp : 2 ^ s ≤ 128 := Nat.pow_le_pow_right (by decide) (show s ≤ 7 by omega)
  have hm : (v (24 + 5 * s + 3)).toNat * 2 ^ s ≤ 2 ^ s := by
    rcases (show (v (24 + 5 * s + 3)).toNat = 0 ∨ (v (24 + 5 * s + 3)).toNat = 1 by omega) with e | e <;> rw [e] <;> omega
  rw [nu_shl hq.1 (by omega) (by omega), nu_or (by omega) (by omega) (by omega) (by omega), Int.toNat_natCast, Int.toNat_natCast, sDr, Nat.or_comm, Nat.mul_comm, ← Nat.two_pow_add_eq_or_of_lt hb, Nat.add_comm]
theorem rs_b {v : Sg} (h : sInv v) : 0 ≤ v 1 * v 0 ∧ v 1 * v 0 ≤ 4000000 := by
  have h1 := iv_set h
  have h2 := iv_bel h
  refine ⟨Int.mul_nonneg (by omega) (by omega), ?_⟩
  have h3 : v 1 * v 0 ≤ v 1 * 20000 := Int.mul_le_mul_of_nonneg_left (by omega) (by omega)
  omega
theorem ac0_t1 {v : Sg} (h : sInv v) (hc : 2 ≤ v 10) : vand (vor (v 11) (vshl (v 11) 12)) 16777215 = ((sAct0 v true : Nat) : Int) := by
  have hk := iv_key h
  rw [nu_octM hk.2.1.1 hk.2.1.2, sAct0, if_pos hc]
  rfl
theorem ac0_t0 {v : Sg} (h : sInv v) (hc : ¬ 2 ≤ v 10) : vand (vor (v 11) 0) 16777215 = ((sAct0 v true : Nat) : Int) := by
  have hk := iv_key h
  rw [nu_noct hk.2.1.1 hk.2.1.2, sAct0, if_neg hc]
  show v 11 = (((v 11).toNat : Nat) : Int)
  omega
theorem ac0_f1 {v : Sg} (_ : sInv v) (hc : 2 ≤ v 10) : vand (vor 0 (vshl 0 12)) 16777215 = ((sAct0 v false : Nat) : Int) := by
  rw [nu_octM (by decide) (by decide), sAct0, if_pos hc]
  rfl
theorem ac0_f0 {v : Sg} (_ : sInv v) (hc : ¬ 2 ≤ v 10) : vand (vor 0 0) 16777215 = ((sAct0 v false : Nat) : Int) := by
  rw [nu_noct (by decide) (by decide), sAct0, if_neg hc]
  rfl
theorem ac1_t1 {v : Sg} (h : sInv v) (hd : v 10 % 2 = 1) : vor (v 12) ((sAct0 v true : Nat) : Int) = ((sAct1 v true : Nat) : Int) := by
  have hk := iv_key h
  have h0 := sAct0_lt h true
  rw [nu_or hk.2.2.1 (by omega) (by omega) (by omega), Int.toNat_natCast, sAct1, if_pos hd]
  rfl
theorem ac1_t0 {v : Sg} (h : sInv v) (hd : ¬ v 10 % 2 = 1) : vor (v 12) 0 = ((sAct1 v true : Nat) : Int) := by
  have hk := iv_key h
  rw [nu_or hk.2.2.1 (by omega) (by omega) (by omega), sAct1, if_neg hd]
  show (((v 12).toNat ||| 0 : Nat) : Int) = _
  rw [Nat.or_zero]
  rfl
theorem ac1_f1 {v : Sg} (h : sInv v) (hd : v 10 % 2 = 1) : vor 0 ((sAct0 v false : Nat) : Int) = ((sAct1 v false : Nat) : Int) := by
  have h0 := sAct0_lt h false
  rw [nu_or (by decide) (by decide) (by omega) (by omega), Int.toNat_natCast, sAct1, if_pos hd]
  rfl
theorem ac1_f0 {v : Sg} (_ : sInv v) (hd : ¬ v 10 % 2 = 1) : vor 0 0 = ((sAct1 v false : Nat) : Int) := by
  rw [sAct1, if_neg hd]
  show vor 0 0 = ((0 : Nat) : Int)
  decide
