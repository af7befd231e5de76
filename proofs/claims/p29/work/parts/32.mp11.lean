/-! ===== the twin: reading the text ===== -/
/-- the letter at p of t letters, -1 behind them -/
def tH (L : Nat → Int) (t p : Nat) : Int := if p < t then L p else -1
abbrev tD (L : Nat → Int) (t p : Nat) : Prop := 48 ≤ tH L t p ∧ tH L t p ≤ 57
def pDg (L : Nat → Int) (t p : Nat) : Nat → Int
  | 0 => 0
  | j + 1 => 10 * pDg L t p j + (tH L t (p + j) - 48)
def pNx (L : Nat → Int) (t p : Nat) : Nat → Nat → Nat
  | 0, j => j
  | n + 1, j => if tD L t (p + j) then pNx L t p n (j + 1) else j
def pNl (L : Nat → Int) (t p : Nat) : Nat := if tD L t p then (if tH L t p = 48 then 1 else pNx L t p 2 1) else 0
def pNv (L : Nat → Int) (t p : Nat) : Int := pDg L t p (pNl L t p)
abbrev pOk (L : Nat → Int) (t p : Nat) (lo hi : Int) : Prop := tD L t p ∧ lo ≤ pNv L t p ∧ pNv L t p ≤ hi
def pA (L : Nat → Int) (t p : Nat) : Bool × Nat :=
  if tH L t p = 100 ∨ tH L t p = 114 then (if 0 ≤ tH L t (p + 1) - 48 ∧ tH L t (p + 1) - 48 ≤ 7 then (true, p + 2) else (false, p + 1))
  else if tH L t p = 112 ∨ tH L t p = 108 then (if 0 ≤ tH L t (p + 1) - 48 ∧ tH L t (p + 1) - 48 ≤ 1 then (if pOk L t (p + 2) 0 23 then (if tH L t (p + 2 + pNl L t (p + 2)) = 59 then (true, p + 2 + pNl L t (p + 2) + 1) else (false, p + 2 + pNl L t (p + 2))) else (false, p + 2)) else (false, p + 1))
  else if tH L t p = 116 then (if pOk L t (p + 1) 1 200 then (if tH L t (p + 1 + pNl L t (p + 1)) = 59 then (true, p + 1 + pNl L t (p + 1) + 1) else (false, p + 1 + pNl L t (p + 1))) else (false, p + 1))
  else (false, p)
/-- the letters of the text are such as append takes -/
def pLt (L : Nat → Int) (t : Nat) : Prop := t ≤ 80 ∧ ∀ k, k < t → 0 ≤ L k ∧ L k ≤ 127
theorem tH_b {L : Nat → Int} {t : Nat} (h : pLt L t) (p : Nat) : -1 ≤ tH L t p ∧ tH L t p ≤ 127 := by
  unfold tH
  split
  · have := h.2 p (by assumption); omega
  · omega
theorem pDg_b {L : Nat → Int} {t p : Nat} : ∀ j, (∀ i, i < j → tD L t (p + i)) → 0 ≤ pDg L t p j ∧ pDg L t p j < 10 ^ j
  | 0, _ => by show (0 : Int) ≤ 0 ∧ (0 : Int) < 10 ^ 0; decide
  | j + 1, h => by
    have h1 := pDg_b (L := L) (t := t) (p := p) j (fun i hi => h i (by omega))
    have h2 := h j (by omega)
    rw [pDg, Int.pow_succ]
    omega
theorem pNx_d {L : Nat → Int} {t p : Nat} : ∀ n j, (∀ i, i < j → tD L t (p + i)) → (j ≤ pNx L t p n j ∧ pNx L t p n j ≤ j + n) ∧ ∀ i, i < pNx L t p n j → tD L t (p + i)
  | 0, j, h => ⟨⟨Nat.le_refl _, Nat.le_refl _⟩, h⟩
  | n + 1, j, h => by
    rw [pNx]
    split
    · rename_i hd
      have := pNx_d n (j + 1) (fun i hi => by
        by_cases e : i = j
        · rw [e]; exact hd
        · exact h i (by omega))
      exact ⟨by omega, this.2⟩
    · exact ⟨by omega, h⟩
theorem pNl_d {L : Nat → Int} {t p : Nat} (h : tD L t p) : (1 ≤ pNl L t p ∧ pNl L t p ≤ 3) ∧ ∀ i, i < pNl L t p → tD L t (p + i) := by
  have h0 : ∀ i, i < 1 → tD L t (p + i) := fun i hi => by rw [show i = 0 by omega]; exact h
  rw [pNl, if_pos h]
  split
  · exact ⟨by omega, h0⟩
  · have := pNx_d (L := L) (t := t) (p := p) 2 1 h0
    exact ⟨by omega, this.2⟩
theorem pNl_0 {L : Nat → Int} {t p : Nat} (h : tH L t p - 48 = 0) : pNl L t p = 1 ∧ pNv L t p = tH L t p - 48 := by
  have e : pNl L t p = 1 := by rw [pNl, if_pos (by unfold tD; omega), if_pos (by omega)]
  rw [pNv, e, pDg, pDg]
  exact ⟨rfl, by rw [Nat.add_zero]; omega⟩
theorem pNv_b {L : Nat → Int} {t p : Nat} (h : tD L t p) : 0 ≤ pNv L t p ∧ pNv L t p ≤ 999 := by
  have h1 := pNl_d h
  have h2 := pDg_b (L := L) (t := t) (p := p) (pNl L t p) h1.2
  rw [pNv]
  rcases (show pNl L t p = 1 ∨ pNl L t p = 2 ∨ pNl L t p = 3 by omega) with e | e | e <;> rw [e] at h2 ⊢ <;> omega
/-- what is read changes four fields of the twin: place, act, first, number -/
def tK (M0 K : Mem) (p : Nat) (a f n : Int) : Prop := K.2 = M0.2 ∧ (∀ i, i ≠ 110 → K.1 i = M0.1 i) ∧ (∀ k, k < 17 → K.1 110 k = M0.1 110 k) ∧ K.1 110 17 = (p : Int) ∧ K.1 110 18 = a ∧ K.1 110 19 = f ∧ K.1 110 20 = n
theorem tK.pl {M0 K : Mem} {p : Nat} {a f n z : Int} (h : tK M0 K p a f n) {p' : Nat} (e : z = (p' : Int)) : tK M0 (vup K.1 110 17 z, K.2) p' a f n := by
  obtain ⟨h1, h2, h3, h4, h5, h6, h7⟩ := h
  refine ⟨h1, fun i hi => ?_, fun k hk => ?_, ?_, ?_, ?_, ?_⟩ <;> dsimp only
  · funext b; rw [vup_o (by omega), h2 i hi]
  · rw [vup_o (by omega)]; exact h3 k hk
  · rw [vup_s]; exact e
  · rw [vup_o (by omega)]; exact h5
  · rw [vup_o (by omega)]; exact h6
  · rw [vup_o (by omega)]; exact h7
theorem tK.ac {M0 K : Mem} {p : Nat} {a f n : Int} (h : tK M0 K p a f n) (z : Int) : tK M0 (vup K.1 110 18 z, K.2) p z f n := by
  obtain ⟨h1, h2, h3, h4, h5, h6, h7⟩ := h
  refine ⟨h1, fun i hi => ?_, fun k hk => ?_, ?_, ?_, ?_, ?_⟩ <;> dsimp only
  · funext b; rw [vup_o (by omega), h2 i hi]
  · rw [vup_o (by omega)]; exact h3 k hk
  · rw [vup_o (by omega)]; exact h4
  · rw [vup_s]
  · rw [vup_o (by omega)]; exact h6
  · rw [vup_o (by omega)]; exact h7
theorem tK.fi {M0 K : Mem} {p : Nat} {a f n : Int} (h : tK M0 K p a f n) (z : Int) : tK M0 (vup K.1 110 19 z, K.2) p a z n := by
  obtain ⟨h1, h2, h3, h4, h5, h6, h7⟩ := h
  refine ⟨h1, fun i hi => ?_, fun k hk => ?_, ?_, ?_, ?_, ?_⟩ <;> dsimp only
  · funext b; rw [vup_o (by omega), h2 i hi]
  · rw [vup_o (by omega)]; exact h3 k hk
  · rw [vup_o (by omega)]; exact h4
  · rw [vup_o (by omega)]; exact h5
  · rw [vup_s]
  · rw [vup_o (by omega)]; exact h7
theorem tK.nu {M0 K : Mem} {p : Nat} {a f n : Int} (h : tK M0 K p a f n) (z : Int) : tK M0 (vup K.1 110 20 z, K.2) p a f z := by
  obtain ⟨h1, h2, h3, h4, h5, h6, h7⟩ := h
  refine ⟨h1, fun i hi => ?_, fun k hk => ?_, ?_, ?_, ?_, ?_⟩ <;> dsimp only
  · funext b; rw [vup_o (by omega), h2 i hi]
  · rw [vup_o (by omega)]; exact h3 k hk
  · rw [vup_o (by omega)]; exact h4
  · rw [vup_o (by omega)]; exact h5
  · rw [vup_o (by omega)]; exact h6
  · rw [vup_s]
section OT
variable {x : vXX} {Q : State → Prop} {G : vGG} {cc : ByteArray} {own : String} {pc : Nat} {ls : List (Option AV)} {st : List AV} {M0 M : Mem} {p : Nat} {a f n : Int}
theorem o_tK (hK : tK M0 M p a f n) (kk : ∀ K : Mem, tK M0 K p a f n → vO x Q G cc own pc ls st K) : vO x Q G cc own pc ls st M := kk M hK
end OT
