/-! ===== the class: reading the text ===== -/
/-- what is read changes five fields of the text: at, fault, kind, place, number -/
def xK (M0 K : Mem) (p : Nat) (q a f n : Int) : Prop := K.2 = M0.2 ∧ (∀ i, i ≠ 24 → K.1 i = M0.1 i) ∧ (∀ k, k < 2 → K.1 24 k = M0.1 24 k) ∧ K.1 24 2 = (p : Int) ∧ K.1 24 3 = q ∧ K.1 24 4 = a ∧ K.1 24 5 = f ∧ K.1 24 6 = n
theorem xK.at {M0 K : Mem} {p : Nat} {q a f n : Int} (h : xK M0 K p q a f n) {z : Int} {p' : Nat} (e : z = (p' : Int)) : xK M0 (vup K.1 24 2 z, K.2) p' q a f n := by
  obtain ⟨h1, h2, h3, h4, h5, h6, h7, h8⟩ := h
  refine ⟨h1, fun i hi => ?_, fun k hk => ?_, ?_, ?_, ?_, ?_, ?_⟩ <;> dsimp only
  · funext b; rw [vup_o (by omega), h2 i hi]
  · rw [vup_o (by omega)]; exact h3 k hk
  · rw [vup_s]; exact e
  · rw [vup_o (by omega)]; exact h5
  · rw [vup_o (by omega)]; exact h6
  · rw [vup_o (by omega)]; exact h7
  · rw [vup_o (by omega)]; exact h8
theorem xK.fa {M0 K : Mem} {p : Nat} {q a f n : Int} (h : xK M0 K p q a f n) (z : Int) : xK M0 (vup K.1 24 3 z, K.2) p z a f n := by
  obtain ⟨h1, h2, h3, h4, h5, h6, h7, h8⟩ := h
  refine ⟨h1, fun i hi => ?_, fun k hk => ?_, ?_, ?_, ?_, ?_, ?_⟩ <;> dsimp only
  · funext b; rw [vup_o (by omega), h2 i hi]
  · rw [vup_o (by omega)]; exact h3 k hk
  · rw [vup_o (by omega)]; exact h4
  · rw [vup_s]
  · rw [vup_o (by omega)]; exact h6
  · rw [vup_o (by omega)]; exact h7
  · rw [vup_o (by omega)]; exact h8
theorem xK.ki {M0 K : Mem} {p : Nat} {q a f n : Int} (h : xK M0 K p q a f n) (z : Int) : xK M0 (vup K.1 24 4 z, K.2) p q z f n := by
  obtain ⟨h1, h2, h3, h4, h5, h6, h7, h8⟩ := h
  refine ⟨h1, fun i hi => ?_, fun k hk => ?_, ?_, ?_, ?_, ?_, ?_⟩ <;> dsimp only
  · funext b; rw [vup_o (by omega), h2 i hi]
  · rw [vup_o (by omega)]; exact h3 k hk
  · rw [vup_o (by omega)]; exact h4
  · rw [vup_o (by omega)]; exact h5
  · rw [vup_s]
  · rw [vup_o (by omega)]; exact h7
  · rw [vup_o (by omega)]; exact h8
theorem xK.pl {M0 K : Mem} {p : Nat} {q a f n : Int} (h : xK M0 K p q a f n) (z : Int) : xK M0 (vup K.1 24 5 z, K.2) p q a z n := by
  obtain ⟨h1, h2, h3, h4, h5, h6, h7, h8⟩ := h
  refine ⟨h1, fun i hi => ?_, fun k hk => ?_, ?_, ?_, ?_, ?_, ?_⟩ <;> dsimp only
  · funext b; rw [vup_o (by omega), h2 i hi]
  · rw [vup_o (by omega)]; exact h3 k hk
  · rw [vup_o (by omega)]; exact h4
  · rw [vup_o (by omega)]; exact h5
  · rw [vup_o (by omega)]; exact h6
  · rw [vup_s]
  · rw [vup_o (by omega)]; exact h8
theorem xK.nu {M0 K : Mem} {p : Nat} {q a f n : Int} (h : xK M0 K p q a f n) (z : Int) : xK M0 (vup K.1 24 6 z, K.2) p q a f z := by
  obtain ⟨h1, h2, h3, h4, h5, h6, h7, h8⟩ := h
  refine ⟨h1, fun i hi => ?_, fun k hk => ?_, ?_, ?_, ?_, ?_, ?_⟩ <;> dsimp only
  · funext b; rw [vup_o (by omega), h2 i hi]
  · rw [vup_o (by omega)]; exact h3 k hk
  · rw [vup_o (by omega)]; exact h4
  · rw [vup_o (by omega)]; exact h5
  · rw [vup_o (by omega)]; exact h6
  · rw [vup_o (by omega)]; exact h7
  · rw [vup_s]
