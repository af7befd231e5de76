/-! ===== the twin: lays ===== -/
def SC4 (v : Sg) (st : Nat) (pr : Bool) (N : Mem) : Prop := (∀ m, m < 2 → N.1 120 m = ((sAct v pr m : Nat) : Int)) ∧ (∀ s, s < 8 → N.1 121 s = ((sOpn v st pr s : Nat) : Int)) ∧ (∀ m, m < 2 → N.1 122 m = sNs v st pr m 192) ∧ (∀ m, m < 2 → N.1 123 m = sPr v st pr m)
/-- what lays has laid -/
def SC (v : Sg) (st : Nat) (pr : Bool) (N : Mem) : Prop := SC4 v st pr N ∧ (∀ p, p < 192 → N.1 124 p = sAs v st pr p) ∧ ∀ p, p < 192 → N.1 125 p = sGt v st pr p
theorem SC4.keep {v : Sg} {st : Nat} {pr : Bool} {N N' : Mem} (h : SC4 v st pr N) (h2 : fr [124, 125] N N') : SC4 v st pr N' := by
  obtain ⟨a, b, c, d⟩ := h
  refine ⟨?_, ?_, ?_, ?_⟩
  · rw [h2.2 120 (by decide)]; exact a
  · rw [h2.2 121 (by decide)]; exact b
  · rw [h2.2 122 (by decide)]; exact c
  · rw [h2.2 123 (by decide)]; exact d
theorem op_1 {v : Sg} (h : sInv v) {st s : Nat} {pr : Bool} (hs : s < 8) (hb : st.testBit s = true) : vor ((sAct v pr (sMan v s) : Nat) : Int) (v (256 + s)) = ((sOpn v st pr s : Nat) : Int) := by
  have h1 := sAct_lt h pr (sMan v s)
  have h2 := (iv_st h hs).2.2.2.2
  rw [nu_or (by omega) (by omega) (by omega) (by omega), Int.toNat_natCast, sOpn, if_pos hb]
theorem op_0 {v : Sg} {st s : Nat} {pr : Bool} (hb : ¬ st.testBit s = true) : (0 : Int) = ((sOpn v st pr s : Nat) : Int) := by
  rw [sOpn, if_neg hb]
  rfl
theorem na_1 {v : Sg} {st s k : Nat} {pr : Bool} (hb : (sOpn v st pr s).testBit k = true) : sNeed v s k = sNa v st pr s k := by rw [sNa, if_pos hb]
theorem na_0 {v : Sg} {st s k : Nat} {pr : Bool} (hb : ¬ (sOpn v st pr s).testBit k = true) : (0 : Int) = sNa v st pr s k := by rw [sNa, if_neg hb]
theorem ak_1 {v : Sg} (h : sInv v) {st s k : Nat} {pr : Bool} (hs : s < 8) (hk : k < 24) (hb : (sOpn v st pr s).testBit k = true) : (sNeed v s k * sPr v st pr (sMan v s)).tdiv (v 1) = sAk v st pr s k := by
  have h1 := sNeed_b h hs hk
  have h2 := sPr_b h st pr (sMan_lt h hs).1
  rw [sAk, if_pos hb, nu_tdiv (Int.mul_nonneg (by omega) (by omega))]
theorem ak_0 {v : Sg} {st s k : Nat} {pr : Bool} (hb : ¬ (sOpn v st pr s).testBit k = true) : (0 : Int) = sAk v st pr s k := by rw [sAk, if_neg hb]
theorem ak_R {v : Sg} (h : sInv v) {st s k : Nat} {pr : Bool} (hs : s < 8) (hk : k < 24) : R32 (sNeed v s k * sPr v st pr (sMan v s)) := by
  have h1 := sNeed_b h hs hk
  have h2 := sPr_b h st pr (sMan_lt h hs).1
  have h3 := iv_set h
  have h4 : 0 ≤ sNeed v s k * sPr v st pr (sMan v s) := Int.mul_nonneg (by omega) (by omega)
  have h5 : sNeed v s k * sPr v st pr (sMan v s) ≤ sNeed v s k * 200 := Int.mul_le_mul_of_nonneg_left (by omega) (by omega)
  omega
theorem nl_b {v : Sg} (h : sInv v) {st m : Nat} {pr : Bool} (hm : m < 2) : 0 ≤ sNs v st pr m 192 * v (2 + m) ∧ sNs v st pr m 192 * v (2 + m) ≤ 900000 := by
  have h2 := sNs_b h st pr m 192 (Nat.le_refl _)
  have h3 := iv_los h hm
  refine ⟨Int.mul_nonneg h2.1 h3.1, ?_⟩
  have h4 : sNs v st pr m 192 * v (2 + m) ≤ sNs v st pr m 192 * 100 := Int.mul_le_mul_of_nonneg_left (by omega) (by omega)
  omega
theorem nd_up {v : Sg} {st s k : Nat} {pr : Bool} {N : Mem} (hk : k < 24) (hn : ∀ m, m < 2 → N.1 122 m = sNs v st pr m (24 * s + k)) (m : Nat) (hm : m < 2) : vup N.1 122 (sMan v s) (sNs v st pr (sMan v s) (24 * s + k) + sNa v st pr s k) 122 m = sNs v st pr m (24 * s + (k + 1)) := by
  rw [vup_in, sNs_step _ _ _ _ _ hk]
  by_cases h : m = sMan v s
  · subst h
    rw [if_pos rfl, if_pos rfl]
  · rw [if_neg h, if_neg (fun q => h q.symm), hn m hm]
    omega
theorem as_up {v : Sg} {st s k : Nat} {pr : Bool} {f : Nat → Int} (hk : k < 24) (h : ∀ p, p < 24 * s + k → f p = sAs v st pr p) (p : Nat) (hp : p < 24 * s + (k + 1)) : (if p = 24 * s + k then sAk v st pr s k else f p) = sAs v st pr p := by
  by_cases e : p = 24 * s + k
  · rw [if_pos e, e, sAs_at _ _ _ _ hk]
  · rw [if_neg e]; exact h p (by omega)
theorem gt_up {v : Sg} {st s k : Nat} {pr : Bool} {f : Nat → Int} (hk : k < 24) (h : ∀ p, p < 24 * s + k → f p = sGt v st pr p) (p : Nat) (hp : p < 24 * s + (k + 1)) : (if p = 24 * s + k then min (sAk v st pr s k) (sLf v st pr (24 * s + k)) else f p) = sGt v st pr p := by
  by_cases e : p = 24 * s + k
  · rw [if_pos e, e, sGt, sAs_at _ _ _ _ hk]
  · rw [if_neg e]; exact h p (by omega)
