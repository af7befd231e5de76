/-! ===== one call of each side: the answers are one, the two states agree again (by hand) ===== -/
theorem aI_inj {a b : Int} (h : some (aI a) = some (aI b)) : a = b := Sum.inl.inj (Option.some.inj h)
theorem aL_inj {a b : Int} (h : some (aL a) = some (aL b)) : a = b := Sum.inl.inj (Sum.inr.inj (Option.some.inj h))
section PP
variable {v w : Sg} {r : Nat} {h : Nat → Nat} {ro : Nat → Sg} {ke : Nat → Int} {kr : Nat → Sg} {t : Nat} {L : Nat → Int} {M N N' : Mem} {z1 z2 : Int} {good : Prop} {A E : Int} {r0 : Option AV}
theorem JX.lay (hX : JX v r h ro ke kr t L M) : LayX M.2 := hX.1
theorem JX.xs (hX : JX v r h ro ke kr t L M) : XS 1 v M.1 := hX.2.1.1
theorem JX.inv (hX : JX v r h ro ke kr t L M) : sInv v := hX.2.1.2
theorem JX.jr (hX : JX v r h ro ke kr t L M) : M.1 0 8 = (r : Int) := hX.2.2.1.1.1
theorem JX.r5 (hX : JX v r h ro ke kr t L M) : r ≤ 5 := hX.2.2.1.1.2
theorem JX.hh (hX : JX v r h ro ke kr t L M) : ∀ k, k < 5 → M.2 21 k = some (h k) := hX.2.2.1.2.1
theorem JX.hB (hX : JX v r h ro ke kr t L M) : ∀ k, k < 5 → stB (h k) ∧ 40 ≤ h k ∧ h k ≤ 80 := hX.2.2.1.2.2.1
theorem JX.tx1 (hX : JX v r h ro ke kr t L M) : M.1 24 1 = (t : Int) := hX.2.2.2.2.1.1
theorem JX.tx2 (hX : JX v r h ro ke kr t L M) : ∀ k, k < t → M.1 25 k = L k := hX.2.2.2.2.1.2.1
theorem JX.txB (hX : JX v r h ro ke kr t L M) : pLt L t := hX.2.2.2.2.1.2.2
theorem JX.lo (hX : JX v r h ro ke kr t L M) : ∀ k, k < 9 → M.1 1001 k = tLo k := fun k hk => (hX.2.2.2.2.2 k hk).1
theorem JX.hi (hX : JX v r h ro ke kr t L M) : ∀ k, k < 9 → M.1 1002 k = tHi k := fun k hk => (hX.2.2.2.2.2 k hk).2
theorem JX.k (hX : JX v r h ro ke kr t L M) : ∀ s, s < 2 → M.1 23 s = 0 ∨ M.1 23 s = 1 := fun s hs => by rw [(hX.2.2.2.1 s hs).1]; exact (hX.2.2.2.1 s hs).2.1
-- changes
theorem xPost_z (h1 : xPost r h v M good A E w r0 N) : ∃ z, r0 = some (aI z) := by
  by_cases g : good
  · exact ⟨_, (h1.1 g).1⟩
  · exact ⟨_, (h1.2 g).1⟩
theorem xPost_x (hX : JX v r h ro ke kr t L M) (h1 : xPost r h v M good A E w r0 N) : xfr M N := by
  by_cases g : good
  · exact xfr_op hX.hB (h1.1 g).2
  · rw [(h1.2 g).2]; exact xfr_rf
theorem oPost_z (h1 : oPost r v M good A E w r0 N) : ∃ z, r0 = some (aI z) := by
  by_cases g : good
  · exact ⟨_, (h1.1 g).1⟩
  · exact ⟨_, (h1.2 g).1⟩
-- tune
theorem xPostQ_z (h1 : xPostQ r h v M good A E w r0 N) : ∃ z, r0 = some (aI z) := by
  rcases h1 with h1 | h1
  · exact ⟨_, h1.2.1⟩
  · exact ⟨_, h1.2.1⟩
theorem oPostQ_z (h1 : oPostQ r v M good A E w r0 N) : ∃ z, r0 = some (aI z) := by
  rcases h1 with h1 | h1
  · exact ⟨_, h1.2.1⟩
  · exact ⟨_, h1.2.1⟩
theorem xPostQ_x (hX : JX v r h ro ke kr t L M) (h1 : xPostQ r h v M good A E w r0 N) : xfr M N := by
  rcases h1 with ⟨-, -, M0, f1, f2⟩ | ⟨-, -, f1⟩
  · exact xfr_tr (xfr_fz f1 (by decide)) (xfr_op hX.hB f2)
  · exact xfr_fz f1 (by decide)
theorem fz_J1 : ∀ i, (i < 11 ∨ (21 ≤ i ∧ i < 26) ∨ (40 ≤ i ∧ i < 110) ∨ 1000 ≤ i) → (i < 26 ∨ 40 ≤ i) ∧ (i < 1 ∨ 0 ≤ i) := fun i hi => by omega
theorem fz_J2 : ∀ i, (i < 11 ∨ (21 ≤ i ∧ i < 26) ∨ (40 ≤ i ∧ i < 110) ∨ 1000 ≤ i) → (i < 33 ∨ 40 ≤ i) ∧ (i < 1 ∨ 0 ≤ i) := fun i hi => by omega
theorem fz_J3 : ∀ i, (i < 11 ∨ (21 ≤ i ∧ i < 26) ∨ (40 ≤ i ∧ i < 110) ∨ 1000 ≤ i) → (i < 11 ∨ 21 ≤ i) ∧ (i < 33 ∨ 40 ≤ i) := fun i hi => by omega
-- questions
-- undo
theorem undo_z {p1 : Nat → Prop} {p2 : Prop} (h1 : (r = 0 → r0 = some (aI (-1000003)) ∧ p2) ∧ ∀ p, r = p + 1 → r0 = some (aI (p : Int)) ∧ p1 p) : ∃ z, r0 = some (aI z) := by
  cases r with
  | zero => exact ⟨_, (h1.1 rfl).1⟩
  | succ p => exact ⟨_, (h1.2 p rfl).1⟩
theorem undo_x {u : Sg} (h1 : (r = 0 → r0 = some (aI (-1000003)) ∧ N = M) ∧ ∀ p, r = p + 1 → r0 = some (aI (p : Int)) ∧ xUndo p u M N) : xfr M N := by
  cases r with
  | zero => rw [(h1.1 rfl).2]; exact xfr_rf
  | succ p =>
    obtain ⟨-, f1, f2, f3, f4, f5⟩ := h1.2 p rfl
    exact fun i p q => ⟨f5 i (by omega), by rw [f1]⟩
theorem undo_u (hX : JX v r h ro ke kr t L M) : ∀ p, r = p + 1 → XS (h p) (ro (r - 1)) M.1 ∧ sInv (ro (r - 1)) := by
  rintro p rfl
  exact hX.2.2.1.2.2.2.2 p (by omega)
-- save
theorem two_z {g : Prop} {a b : Int} {p1 p2 : Prop} (h1 : (g → r0 = some (aI a) ∧ p1) ∧ (¬ g → r0 = some (aI b) ∧ p2)) : ∃ z, r0 = some (aI z) := by
  by_cases q : g
  · exact ⟨_, (h1.1 q).1⟩
  · exact ⟨_, (h1.2 q).1⟩
theorem save_x {a : Int} (h1 : (0 ≤ a ∧ a ≤ 1 → r0 = some (aI (v 13)) ∧ xSave a.toNat v M N) ∧ (¬ (0 ≤ a ∧ a ≤ 1) → r0 = some (aI (-1000001)) ∧ N = M)) : xfr M N := by
  by_cases q : 0 ≤ a ∧ a ≤ 1
  · obtain ⟨-, f1, f2, f3, f4, f5⟩ := h1.1 q
    have hb := slB_b (s := a.toNat) (by omega)
    exact fun i p q => ⟨f5 i (by omega) (by omega), by rw [f1]⟩
  · rw [(h1.2 q).2]; exact xfr_rf
-- restore
theorem rest_u {a : Int} (hX : JX v r h ro ke kr t L M) : (0 ≤ a ∧ a ≤ 1) ∧ ¬ M.1 23 a.toNat = 0 → XS (slB a.toNat) (kr a.toNat) M.1 ∧ sInv (kr a.toNat) := fun q => by
  have hk := hX.2.2.2.1 a.toNat (by omega)
  exact hk.2.2 (by rw [← hk.1]; exact q.2)
theorem rest_x {a : Int} {u : Sg} (hX : JX v r h ro ke kr t L M) (h1 : ((0 ≤ a ∧ a ≤ 1) ∧ ¬ M.1 23 a.toNat = 0 → r0 = some (aI (u 13)) ∧ xOp r h v u M N) ∧ (¬ ((0 ≤ a ∧ a ≤ 1) ∧ ¬ M.1 23 a.toNat = 0) → r0 = some (aI (if 0 ≤ a ∧ a ≤ 1 then -1000003 else -1000001)) ∧ N = M)) : xfr M N := by
  by_cases g : (0 ≤ a ∧ a ≤ 1) ∧ ¬ M.1 23 a.toNat = 0
  · exact xfr_op hX.hB (h1.1 g).2
  · rw [(h1.2 g).2]; exact xfr_rf
-- the text
theorem app_x {z : Int} (h1 : r0 = some (aI (aApp t z)) ∧ N = if (0 ≤ z ∧ z ≤ 127) ∧ t ≤ 79 then xAdd t z M else M) : xfr M N := by
  rw [h1.2]
  split
  · intro i p q
    unfold xAdd
    exact ⟨by funext b; dsimp only; rw [vup_o (by omega), vup_o (by omega)], rfl⟩
  · exact xfr_rf
theorem clr_x : xfr M (vup M.1 24 1 0, M.2) := fun i p q => ⟨by funext b; dsimp only; rw [vup_o (by omega)], rfl⟩
theorem fau_z {A : Int} {p : Prop} (h1 : r0 = some (aI A) ∧ p) : ∃ z, r0 = some (aI z) := ⟨_, h1.1⟩
-- play
theorem xPlay_z (h1 : xPlay r h v L t M r0 N) : ∃ z, r0 = some (aI z) := by
  rcases h1 with h1 | h1
  · exact ⟨_, h1.2.1⟩
  · exact ⟨_, h1.2.1⟩
theorem pPost_z (h1 : pPost r v L t M r0 N) : ∃ z, r0 = some (aI z) := by
  rcases h1 with h1 | h1
  · exact ⟨_, h1.2.1⟩
  · exact ⟨_, h1.2.1⟩
theorem xPlay_x (hX : JX v r h ro ke kr t L M) (h1 : xPlay r h v L t M r0 N) : xfr M N := by
  rcases h1 with ⟨-, -, N1, N2, ⟨_, _, _, _, _, x1⟩, x2, ⟨_, x3⟩, x4⟩ | ⟨-, -, _, _, _, _, _, x1⟩
  · exact xfr_tr (xfr_xK x1) (xfr_tr (xfr_rec hX.hB x2) (fun i p q => ⟨x3.2.1 i (by omega) (by omega) (by omega), by rw [x3.1]⟩))
  · exact xfr_xK x1
theorem pPl_inv {L : Nat → Int} {t : Nat} : ∀ n p w, sInv w → (pT L t n p).1 = true → sInv (pPl L t n p w).1
  | 0, _, w, hI, _ => hI
  | n + 1, p, w, hI, hT => by
    rw [pPl]
    split
    · rename_i hp
      rw [pT, if_pos hp] at hT
      have ho : (pA L t p).1 = true := by
        by_cases g : (pA L t p).1 = true
        · exact g
        · rw [if_neg g] at hT; cases hT
      rw [if_pos ho] at hT
      exact pPl_inv n _ _ (pE_inv hI ho) hT
    · exact hI
end PP
