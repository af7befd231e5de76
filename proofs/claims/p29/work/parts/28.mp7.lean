/-! ===== the twin: what is recorded; changes ===== -/
/-- the state v is recorded behind n states -/
def mRec (n : Nat) (v : Sg) (M M' : Mem) : Prop := M'.2 = M.2 ∧ (∀ i, i ≠ 110 → i ≠ 113 → M'.1 i = M.1 i) ∧ (∀ k, k ≠ 3 → M'.1 110 k = M.1 110 k) ∧ M'.1 110 3 = ((min n 4 + 1 : Nat) : Int) ∧ (∀ p, p < 264 * min n 4 → M'.1 113 p = M.1 113 (p + 264 * (n / 5))) ∧ ∀ k, k < 264 → M'.1 113 (264 * min n 4 + k) = v k
theorem mRec.at {n : Nat} {v : Sg} {M M' : Mem} (h : mRec n v M M') {i : Nat} (a : i ≠ 110) (b : i ≠ 113) : M'.1 i = M.1 i := h.2.1 i a b
theorem vup_o {f : Nat → Nat → Int} {i k a b : Nat} {z : Int} (h : a ≠ i ∨ b ≠ k) : vup f i k z a b = f a b := by
  unfold vup
  rw [if_neg (fun q => by omega)]
theorem vup_s (f : Nat → Nat → Int) (i k : Nat) (z : Int) : vup f i k z i k = z := if_pos ⟨rfl, rfl⟩
theorem vup_nk (f : Nat → Nat → Int) {i k b : Nat} (a : Nat) (z : Int) (h : b ≠ k) : vup f i k z a b = f a b := by
  unfold vup
  rw [if_neg (fun q => h q.2)]
