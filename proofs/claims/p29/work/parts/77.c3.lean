/-! ===== constructors: the twin ===== -/
def F4k : Nat → Nat
  | 0 => 0
  | 1 => 1
  | 2 => 2
  | 3 => 4
  | 4 => 5
  | 5 => 6
  | 6 => 8
  | 7 => 9
  | 8 => 10
  | 9 => 11
  | 10 => 12
  | 11 => 13
  | 12 => 14
  | 13 => 15
  | 14 => 16
  | _ => 21
theorem F4k_ne : ∀ j, j < 16 → ∀ k, k < j → F4k k ≠ F4k j := by decide +kernel
def w9 (z0 z1 z2 z3 z4 z5 z6 z7 z8 : Int) : Nat → Int := fun a => if a = 8 then z8 else if a = 7 then z7 else if a = 6 then z6 else if a = 5 then z5 else if a = 4 then z4 else if a = 3 then z3 else if a = 2 then z2 else if a = 1 then z1 else if a = 0 then z0 else 0
def W4 : Nat → Nat → Int := fun i => if i = 117 then w9 20 0 0 100 1000 0 10 1 0 else if i = 118 then w9 200 100 100 2000 20000 20000 500 8 32 else if i = 119 then w9 80 10 10 500 6000 4000 120 4 8 else fun _ => 0
theorem ch9 {g : Nat → Nat → Int} {n : Nat} {z0 z1 z2 z3 z4 z5 z6 z7 z8 : Int} (h : g n = fun _ => 0) : vup (vup (vup (vup (vup (vup (vup (vup (vup g n 0 z0) n 1 z1) n 2 z2) n 3 z3) n 4 z4) n 5 z5) n 6 z6) n 7 z7) n 8 z8 n = w9 z0 z1 z2 z3 z4 z5 z6 z7 z8 := by
  funext a
  rw [vup_in, vup_in, vup_in, vup_in, vup_in, vup_in, vup_in, vup_in, vup_in, h]
  rfl
theorem ch9o {g : Nat → Nat → Int} {n i : Nat} (hi : i ≠ n) {z0 z1 z2 z3 z4 z5 z6 z7 z8 : Int} : vup (vup (vup (vup (vup (vup (vup (vup (vup g n 0 z0) n 1 z1) n 2 z2) n 3 z3) n 4 z4) n 5 z5) n 6 z6) n 7 z7) n 8 z8 i = g i := by
  funext a
  rw [vup_o (.inl hi), vup_o (.inl hi), vup_o (.inl hi), vup_o (.inl hi), vup_o (.inl hi), vup_o (.inl hi), vup_o (.inl hi), vup_o (.inl hi), vup_o (.inl hi)]
theorem w9_lo : ∀ k, k < 9 → w9 20 0 0 100 1000 0 10 1 0 k = tLo k := by decide +kernel
theorem w9_hi : ∀ k, k < 9 → w9 200 100 100 2000 20000 20000 500 8 32 k = tHi k := by decide +kernel
theorem w9_fs : ∀ k, k < 9 → w9 80 10 10 500 6000 4000 120 4 8 k = tFs k := by decide +kernel
/-- the twin's cells are made, its row is g -/
def MI (g : Sg) (M0 K : Mem) : Prop := (∀ i, (i < 110 ∨ 127 ≤ i) → K.1 i = M0.1 i ∧ K.2 i = M0.2 i) ∧ (∀ i, 110 ≤ i → i < 127 → i ≠ 111 → K.1 i = W4 i) ∧ (∀ k, k < 16 → K.2 110 (F4k k) = some (110 + 1 + k)) ∧ K.1 111 = g
theorem MI.up {g g' : Sg} {M0 K : Mem} (h : MI g M0 K) {j : Nat} {z : Int} (e : ∀ q, g' q = if q = j then z else g q) : MI g' M0 (vup K.1 (110 + 1 + 0) j z, K.2) := by
  obtain ⟨h1, h2, h3, h4⟩ := h
  refine ⟨fun i hi => ⟨?_, (h1 i hi).2⟩, fun i p q r => ?_, h3, ?_⟩ <;> dsimp only
  · rw [← (h1 i hi).1]; funext a; rw [vup_o (by omega)]
  · rw [← h2 i p q r]; funext a; rw [vup_o (by omega)]
  · funext a; rw [e a, ← h4]; exact vup_in
def g1 (i : Nat) : Sg := fun q => if q = 0 then 3000 else if q < 1 + i then tFs (q - 1) else 0
def g2 (s : Nat) : Sg := fun q => if q < 10 then sg0 q else if 24 ≤ q ∧ q < 24 + 5 * s then sg0 q else 0
theorem MI.ini {M0 M : Mem} (h : nG 110 16 F4k W4 M0 M) : MI (g1 0) M0 (vup M.1 (110 + 1 + 0) 0 3000, M.2) := by
  obtain ⟨h1, h2, h3⟩ := h
  refine MI.up (g := fun _ => 0) ⟨fun i hi => h1 i (by omega), fun i p q r => h2 i p (by omega), h3, h2 111 (by decide) (by decide)⟩ (fun q => ?_)
  unfold g1
  by_cases e : q = 0
  · rw [if_pos e, if_pos e]
  · rw [if_neg e, if_neg e, if_neg (by omega)]
theorem g1_s {i : Nat} (hi : i < 9) (q : Nat) : g1 (i + 1) q = if q = 1 + i then tFs i else g1 i q := by
  unfold g1
  by_cases e : q = 1 + i
  · rw [if_pos e, if_neg (by omega), if_pos (by omega), e, Nat.add_sub_cancel_left]
  · rw [if_neg e]
    by_cases e2 : q = 0
    · rw [if_pos e2, if_pos e2]
    · rw [if_neg e2, if_neg e2]
      by_cases e3 : q < 1 + i
      · rw [if_pos e3, if_pos (by omega)]
      · rw [if_neg e3, if_neg (by omega)]
theorem g1_9 : g1 9 = g2 0 := by
  funext q
  unfold g1 g2
  by_cases e2 : q = 0
  · rw [if_pos e2, if_pos (by omega), e2]; rfl
  · rw [if_neg e2]
    by_cases e3 : q < 10
    · rw [if_pos (by omega), if_pos e3]
      obtain ⟨k, rfl⟩ : ∃ k, q = 1 + k := ⟨q - 1, by omega⟩
      rw [sg0_set (by omega), Nat.add_sub_cancel_left]
    · rw [if_neg (by omega), if_neg e3, if_neg (by omega)]
theorem g2_s {s : Nat} (hs : s < 8) (q : Nat) : g2 (s + 1) q = if q = 24 + 5 * s + 2 then 20 + 5 * (s : Int) else if q = 24 + 5 * s + 1 then 4 + 2 * (s : Int) else if q = 24 + 5 * s then ((s % 2 : Nat) : Int) else g2 s q := by
  have hz := sg0_st s hs
  unfold g2
  by_cases e0 : q < 10
  · rw [if_pos e0, if_neg (by omega), if_neg (by omega), if_neg (by omega), if_pos e0]
  · rw [if_neg e0, if_neg e0]
    by_cases e1 : q = 24 + 5 * s + 2
    · rw [if_pos e1, if_pos (by omega), e1]; exact hz.2.2.1
    · rw [if_neg e1]
      by_cases e2 : q = 24 + 5 * s + 1
      · rw [if_pos e2, if_pos (by omega), e2]; exact hz.2.1
      · rw [if_neg e2]
        by_cases e3 : q = 24 + 5 * s
        · rw [if_pos e3, if_pos (by omega), e3]; exact hz.1
        · rw [if_neg e3]
          by_cases e4 : 24 ≤ q ∧ q < 24 + 5 * s
          · rw [if_pos e4, if_pos (by omega)]
          · rw [if_neg e4]
            by_cases e5 : q = 24 + 5 * s + 3
            · rw [if_pos (by omega), e5]; exact hz.2.2.2.1
            · by_cases e6 : q = 24 + 5 * s + 4
              · rw [if_pos (by omega), e6]; exact hz.2.2.2.2
              · rw [if_neg (by omega)]
theorem g2_8 : g2 8 = sg0 := by
  funext q
  unfold g2
  by_cases e : q < 10
  · rw [if_pos e]
  · rw [if_neg e]
    by_cases e2 : 24 ≤ q ∧ q < 24 + 5 * 8
    · rw [if_pos e2]
    · rw [if_neg e2]
      unfold sg0
      rw [if_neg (by omega), if_neg e, if_neg (by omega)]
theorem MI.st {M0 K : Mem} {s : Nat} (hs : s < 8) (h : MI (g2 s) M0 K) : MI (g2 (s + 1)) M0 (vup (vup (vup K.1 (110 + 1 + 0) (24 + 5 * s) ((s % 2 : Nat) : Int)) (110 + 1 + 0) (24 + 5 * s + 1) (4 + 2 * (s : Int))) (110 + 1 + 0) (24 + 5 * s + 2) (20 + 5 * (s : Int)), K.2) := by
  have a := h.up (j := 24 + 5 * s) (z := ((s % 2 : Nat) : Int)) (fun q => rfl)
  have b := a.up (j := 24 + 5 * s + 1) (z := 4 + 2 * (s : Int)) (fun q => rfl)
  exact b.up (fun q => g2_s hs q)
