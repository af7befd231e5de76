/-! ===== the twin: undo, save, restore, append, clearText ===== -/
/-- the last of p + 1 recorded states comes back -/
def mUndo (p : Nat) (M M' : Mem) : Prop := M'.2 = M.2 ∧ (∀ i, i ≠ 110 → i ≠ 111 → M'.1 i = M.1 i) ∧ (∀ k, k ≠ 3 → M'.1 110 k = M.1 110 k) ∧ M'.1 110 3 = (p : Int) ∧ ∀ q, q < 264 → M'.1 111 q = M.1 113 (264 * p + q)
def mSave (s : Nat) (v : Sg) (M M' : Mem) : Prop := M'.2 = M.2 ∧ (∀ i, i ≠ 114 → i ≠ 115 → M'.1 i = M.1 i) ∧ (∀ q, q < 264 → M'.1 114 (264 * s + q) = v q) ∧ (∀ p, p < 264 * s ∨ 264 * s + 264 ≤ p → M'.1 114 p = M.1 114 p) ∧ M'.1 115 s = 1 ∧ ∀ t, t ≠ s → M'.1 115 t = M.1 115 t
def mRest (n s : Nat) (v : Sg) (M M' : Mem) : Prop := ∃ K : Mem, mRec n v M K ∧ M'.2 = K.2 ∧ (∀ i, i ≠ 111 → M'.1 i = K.1 i) ∧ ∀ q, q < 264 → M'.1 111 q = M.1 114 (264 * s + q)
