/-! ===== one call of each side: the answers are one, the two states agree again (by hand) ===== -/
theorem aI_inj {a b : Int} (h : some (aI a) = some (aI b)) : a = b := Sum.inl.inj (Option.some.inj h)
theorem aL_inj {a b : Int} (h : some (aL a) = some (aL b)) : a = b := Sum.inl.inj (Sum.inr.inj (Option.some.inj h))
section PP
variable {v w : Sg} {r : Nat} {h : Nat → Nat} {ro : Nat → Sg} {ke : Nat → Int} {kr : Nat → Sg} {t : Nat} {L : Nat → Int} {M N N' : Mem} {z1 z2 : Int} {good : Prop} {A E : Int} {r0 : Option AV}
theorem JX.lay (hX : JX v r h ro ke kr t L M) : LayX M.2 := hX.1
theorem JX.xs (hX : JX v r h ro ke kr t L M) : XS 1 v M.1 := hX.2.1.1
theorem JX.inv (hX : JX v r h ro ke kr t L M) : sInv v := hX.2.1.2
theorem JX.jr (hX : JX v r h ro ke kr t L M) : M.1 0 8 = (r : Int) := hX.2.2.1.1.1
theorem JX.r5 (hX : JX v r h ro ke kr t L M) : r ≤ 5 := hX.2.2.1.1.2
theorem JX.hh (hX : JX v r h ro ke kr t L M) : ∀ k, k < 5 → M.2 21 k = some (h k) := hX.2.2.1.2.1
theorem JX.hB (hX : JX v r h ro ke kr t L M) : ∀ k, k < 5 → stB (h k) ∧ 40 ≤ h k ∧ h k ≤ 80 := hX.2.2.1.2.2.1
theorem JX.tx1 (hX : JX v r h ro ke kr t L M) : M.1 24 1 = (t : Int) := hX.2.2.2.2.1.1
theorem JX.tx2 (hX : JX v r h ro ke kr t L M) : ∀ k, k < t → M.1 25 k = L k := hX.2.2.2.2.1.2.1
theorem JX.txB (hX : JX v r h ro ke kr t L M) : pLt L t := hX.2.2.2.2.1.2.2
theorem JX.lo (hX : JX v r h ro ke kr t L M) : ∀ k, k < 9 → M.1 1001 k = tLo k := fun k hk => (hX.2.2.2.2.2 k hk).1
theorem JX.hi (hX : JX v r h ro ke kr t L M) : ∀ k, k < 9 → M.1 1002 k = tHi k := fun k hk => (hX.2.2.2.2.2 k hk).2
theorem JX.k (hX : JX v r h ro ke kr t L M) : ∀ s, s < 2 → M.1 23 s = 0 ∨ M.1 23 s = 1 := fun s hs => by rw [(hX.2.2.2.1 s hs).1]; exact (hX.2.2.2.1 s hs).2.1
theorem JM.lay (hM : JM v r ro ke kr t L M) : LayM M.2 := hM.1
theorem JM.n (hM : JM v r ro ke kr t L M) : M.1 110 3 = (r : Int) := hM.2.1.1
theorem JM.jt (hM : JM v r ro ke kr t L M) : M.1 110 7 = (t : Int) := hM.2.1.2
theorem JM.lo (hM : JM v r ro ke kr t L M) : ∀ k, k < 9 → M.1 117 k = tLo k := fun k hk => (hM.2.2.1 k hk).1
theorem JM.hi (hM : JM v r ro ke kr t L M) : ∀ k, k < 9 → M.1 118 k = tHi k := fun k hk => (hM.2.2.1 k hk).2
theorem JM.jv (hM : JM v r ro ke kr t L M) : M.1 111 = v := hM.2.2.2.1
theorem JM.jL (hM : JM v r ro ke kr t L M) : M.1 116 = L := hM.2.2.2.2.2.2
theorem JM.jke (hM : JM v r ro ke kr t L M) : ∀ s, s < 2 → M.1 115 s = ke s := fun s hs => (hM.2.2.2.2.2.1 s hs).1
-- changes
theorem xPost_z (h1 : xPost r h v M good A E w r0 N) : ∃ z, r0 = some (aI z) := by
  by_cases g : good
  · exact ⟨_, (h1.1 g).1⟩
  · exact ⟨_, (h1.2 g).1⟩
theorem xPost_x (hX : JX v r h ro ke kr t L M) (h1 : xPost r h v M good A E w r0 N) : xfr M N := by
  by_cases g : good
  · exact xfr_op hX.hB (h1.1 g).2
  · rw [(h1.2 g).2]; exact xfr_rf
theorem oPost_z (h1 : oPost r v M good A E w r0 N) : ∃ z, r0 = some (aI z) := by
  by_cases g : good
  · exact ⟨_, (h1.1 g).1⟩
  · exact ⟨_, (h1.2 g).1⟩
theorem p_op (hX : JX v r h ro ke kr t L M) (hM : JM v r ro ke kr t L N) (h1 : xPost r h v M good A E w (some (aI z1)) N) (h2 : oPost r v N good A E w (some (aI z2)) N') (hw : good → sInv w) : z1 = z2 ∧ JR N' := by
  by_cases g : good
  · obtain ⟨e1, x1⟩ := h1.1 g
    obtain ⟨e2, x2⟩ := h2.1 g
    exact ⟨(aI_inj e1).trans (aI_inj e2).symm, _, _, _, _, _, _, _, _, (hX.op x1 (hw g)).m (mfr_op x2), hM.op hX.r5 x2⟩
  · obtain ⟨e1, rfl⟩ := h1.2 g
    obtain ⟨e2, rfl⟩ := h2.2 g
    exact ⟨(aI_inj e1).trans (aI_inj e2).symm, _, _, _, _, _, _, _, _, hX, hM⟩
-- tune
theorem xPostQ_z (h1 : xPostQ r h v M good A E w r0 N) : ∃ z, r0 = some (aI z) := by
  rcases h1 with h1 | h1
  · exact ⟨_, h1.2.1⟩
  · exact ⟨_, h1.2.1⟩
theorem oPostQ_z (h1 : oPostQ r v M good A E w r0 N) : ∃ z, r0 = some (aI z) := by
  rcases h1 with h1 | h1
  · exact ⟨_, h1.2.1⟩
  · exact ⟨_, h1.2.1⟩
theorem xPostQ_x (hX : JX v r h ro ke kr t L M) (h1 : xPostQ r h v M good A E w r0 N) : xfr M N := by
  rcases h1 with ⟨-, -, M0, f1, f2⟩ | ⟨-, -, f1⟩
  · exact xfr_tr (xfr_fz f1 (by decide)) (xfr_op hX.hB f2)
  · exact xfr_fz f1 (by decide)
theorem fz_J1 : ∀ i, (i < 11 ∨ (21 ≤ i ∧ i < 26) ∨ (40 ≤ i ∧ i < 110) ∨ 1000 ≤ i) → (i < 26 ∨ 40 ≤ i) ∧ (i < 1 ∨ 0 ≤ i) := fun i hi => by omega
theorem fz_J2 : ∀ i, (i < 11 ∨ (21 ≤ i ∧ i < 26) ∨ (40 ≤ i ∧ i < 110) ∨ 1000 ≤ i) → (i < 33 ∨ 40 ≤ i) ∧ (i < 1 ∨ 0 ≤ i) := fun i hi => by omega
theorem fz_J3 : ∀ i, (i < 11 ∨ (21 ≤ i ∧ i < 26) ∨ (40 ≤ i ∧ i < 110) ∨ 1000 ≤ i) → (i < 11 ∨ 21 ≤ i) ∧ (i < 33 ∨ 40 ≤ i) := fun i hi => by omega
theorem p_opQ (hX : JX v r h ro ke kr t L M) (hM : JM v r ro ke kr t L N) (h1 : xPostQ r h v M good A E w (some (aI z1)) N) (h2 : oPostQ r v N good A E w (some (aI z2)) N') (hw : good → sInv w) : z1 = z2 ∧ JR N' := by
  rcases h1 with ⟨g, e1, M0, f1, f2⟩ | ⟨g, e1, f1⟩
  · rcases h2 with ⟨g2, e2, K0, K, k1, k2, k3, k4⟩ | ⟨g2, e2, k1⟩
    · have hK0 : JM v r ro ke kr t L K0 := hM.frk k1 (nL (by decide)) ((k1.2 111 (by decide)).trans hM.jv)
      exact ⟨(aI_inj e1).trans (aI_inj e2).symm, _, _, _, _, _, _, _, _, ((((hX.fzk f1 fz_J1).op f2 (hw g)).m (mfr_fr k1 (by decide))).m (mfr_rec k2)).m (mfr_fr k3 (by decide)), (hK0.rec hX.r5 k2).frk k3 (nL (by decide)) k4⟩
    · exact absurd g g2
  · rcases h2 with ⟨g2, e2, K0, K, k1, k2, k3, k4⟩ | ⟨g2, e2, k1⟩
    · exact absurd g2 g
    · exact ⟨(aI_inj e1).trans (aI_inj e2).symm, _, _, _, _, _, _, _, _, (hX.fzk f1 fz_J1).m (mfr_fr k1 (by decide)), hM.frk k1 (nL (by decide)) ((k1.2 111 (by decide)).trans hM.jv)⟩
-- questions
theorem p_q {a c a2 c2 : Nat} {Lf : List Nat} (hX : JX v r h ro ke kr t L M) (hM : JM v r ro ke kr t L N) (hF : fz a c a2 c2 M N) (hs : ∀ i, (i < 11 ∨ (21 ≤ i ∧ i < 26) ∨ (40 ≤ i ∧ i < 110) ∨ 1000 ≤ i) → (i < a ∨ c ≤ i) ∧ (i < a2 ∨ c2 ≤ i)) (hG : fr Lf N N') (hl : ∀ i, i ∈ Lf → 110 ≤ i ∧ i < 1000) (hn : 110 ∉ Lf ∧ 113 ∉ Lf ∧ 114 ∉ Lf ∧ 115 ∉ Lf ∧ 116 ∉ Lf ∧ 117 ∉ Lf ∧ 118 ∉ Lf) (hv : N'.1 111 = v) : JR N' :=
  ⟨_, _, _, _, _, _, _, _, (hX.fzk hF hs).m (mfr_fr hG hl), hM.frk hG (nL hn) hv⟩
-- undo
theorem p_undo (hX : JX v r h ro ke kr t L M) (hM : JM v r ro ke kr t L N) (h1 : (r = 0 → some (aI z1) = some (aI (-1000003)) ∧ N = M) ∧ ∀ p, r = p + 1 → some (aI z1) = some (aI (p : Int)) ∧ xUndo p (ro (r - 1)) M N)
    (h2 : (r = 0 → some (aI z2) = some (aI (-1000003)) ∧ N' = N) ∧ ∀ p, r = p + 1 → some (aI z2) = some (aI (p : Int)) ∧ mUndo p N N') : z1 = z2 ∧ JR N' := by
  cases r with
  | zero =>
    obtain ⟨e1, rfl⟩ := h1.1 rfl
    obtain ⟨e2, rfl⟩ := h2.1 rfl
    exact ⟨(aI_inj e1).trans (aI_inj e2).symm, _, _, _, _, _, _, _, _, hX, hM⟩
  | succ p =>
    obtain ⟨e1, x1⟩ := h1.2 p rfl
    obtain ⟨e2, x2⟩ := h2.2 p rfl
    have hI : sInv (ro p) := (hX.2.2.1.2.2.2.2 p (by omega)).2
    have hX1 := hX.undo x1 hI
    obtain ⟨k1, k2, k3, k4, k5⟩ := x2
    obtain ⟨a, ⟨b1, b2⟩, c, d, e, f, g⟩ := hM
    have hX2 := (hX1.row (w := N'.1 111) (fun q hq => (k5 q hq).trans (e p (by omega) q hq))).m (N := N') ⟨k1, fun i hi => k2 i (by omega) (by omega)⟩
    exact ⟨(aI_inj e1).trans (aI_inj e2).symm, _, _, _, _, _, _, _, _, hX2, by rw [k1]; exact a, ⟨k4, (k3 7 (by decide)).trans b2⟩, fun k hk => by rw [k2 117 (by decide) (by decide), k2 118 (by decide) (by decide)]; exact c k hk, rfl, fun i hi q hq => by rw [k2 113 (by decide) (by decide)]; exact e i (by omega) q hq, fun s hs => by rw [k2 115 (by decide) (by decide), k2 114 (by decide) (by decide)]; exact f s hs, by rw [k2 116 (by decide) (by decide)]; exact g⟩
theorem undo_z {p1 : Nat → Prop} {p2 : Prop} (h1 : (r = 0 → r0 = some (aI (-1000003)) ∧ p2) ∧ ∀ p, r = p + 1 → r0 = some (aI (p : Int)) ∧ p1 p) : ∃ z, r0 = some (aI z) := by
  cases r with
  | zero => exact ⟨_, (h1.1 rfl).1⟩
  | succ p => exact ⟨_, (h1.2 p rfl).1⟩
theorem undo_x {u : Sg} (h1 : (r = 0 → r0 = some (aI (-1000003)) ∧ N = M) ∧ ∀ p, r = p + 1 → r0 = some (aI (p : Int)) ∧ xUndo p u M N) : xfr M N := by
  cases r with
  | zero => rw [(h1.1 rfl).2]; exact xfr_rf
  | succ p =>
    obtain ⟨-, f1, f2, f3, f4, f5⟩ := h1.2 p rfl
    exact fun i p q => ⟨f5 i (by omega), by rw [f1]⟩
theorem undo_u (hX : JX v r h ro ke kr t L M) : ∀ p, r = p + 1 → XS (h p) (ro (r - 1)) M.1 ∧ sInv (ro (r - 1)) := by
  rintro p rfl
  exact hX.2.2.1.2.2.2.2 p (by omega)
-- save
theorem two_z {g : Prop} {a b : Int} {p1 p2 : Prop} (h1 : (g → r0 = some (aI a) ∧ p1) ∧ (¬ g → r0 = some (aI b) ∧ p2)) : ∃ z, r0 = some (aI z) := by
  by_cases q : g
  · exact ⟨_, (h1.1 q).1⟩
  · exact ⟨_, (h1.2 q).1⟩
theorem save_x {a : Int} (h1 : (0 ≤ a ∧ a ≤ 1 → r0 = some (aI (v 13)) ∧ xSave a.toNat v M N) ∧ (¬ (0 ≤ a ∧ a ≤ 1) → r0 = some (aI (-1000001)) ∧ N = M)) : xfr M N := by
  by_cases q : 0 ≤ a ∧ a ≤ 1
  · obtain ⟨-, f1, f2, f3, f4, f5⟩ := h1.1 q
    have hb := slB_b (s := a.toNat) (by omega)
    exact fun i p q => ⟨f5 i (by omega) (by omega), by rw [f1]⟩
  · rw [(h1.2 q).2]; exact xfr_rf
theorem p_save {a : Int} (hX : JX v r h ro ke kr t L M) (hM : JM v r ro ke kr t L N) (h1 : (0 ≤ a ∧ a ≤ 1 → some (aI z1) = some (aI (v 13)) ∧ xSave a.toNat v M N) ∧ (¬ (0 ≤ a ∧ a ≤ 1) → some (aI z1) = some (aI (-1000001)) ∧ N = M))
    (h2 : (0 ≤ a ∧ a ≤ 1 → some (aI z2) = some (aI (v 13)) ∧ mSave a.toNat v N N') ∧ (¬ (0 ≤ a ∧ a ≤ 1) → some (aI z2) = some (aI (-1000001)) ∧ N' = N)) : z1 = z2 ∧ JR N' := by
  by_cases g : 0 ≤ a ∧ a ≤ 1
  · obtain ⟨e1, x1⟩ := h1.1 g
    obtain ⟨e2, k1, k2, k3, k4, k5, k6⟩ := h2.1 g
    obtain ⟨b, ⟨b1, b2⟩, c, d, e, f, g0⟩ := hM
    have hX1 := (hX.save (s := a.toNat) (by omega) x1).m (N := N') ⟨k1, fun i hi => k2 i (by omega) (by omega)⟩
    refine ⟨(aI_inj e1).trans (aI_inj e2).symm, _, _, _, _, _, _, _, _, hX1, by rw [k1]; exact b, ⟨by rw [k2 110 (by decide) (by decide)]; exact b1, by rw [k2 110 (by decide) (by decide)]; exact b2⟩, fun k hk => by rw [k2 117 (by decide) (by decide), k2 118 (by decide) (by decide)]; exact c k hk, by rw [k2 111 (by decide) (by decide)]; exact d, fun i hi q hq => by rw [k2 113 (by decide) (by decide)]; exact e i hi q hq, fun s hs => ?_, by rw [k2 116 (by decide) (by decide)]; exact g0⟩
    dsimp only
    by_cases hi : s = a.toNat
    · subst hi
      rw [if_pos rfl, if_pos rfl]
      exact ⟨k5, fun _ q hq => k3 q hq⟩
    · rw [if_neg hi, if_neg hi]
      exact ⟨(k6 s hi).trans (f s hs).1, fun n q hq => (k4 _ (by omega)).trans ((f s hs).2 n q hq)⟩
  · obtain ⟨e1, rfl⟩ := h1.2 g
    obtain ⟨e2, rfl⟩ := h2.2 g
    exact ⟨(aI_inj e1).trans (aI_inj e2).symm, _, _, _, _, _, _, _, _, hX, hM⟩
-- restore
theorem rest_u {a : Int} (hX : JX v r h ro ke kr t L M) : (0 ≤ a ∧ a ≤ 1) ∧ ¬ M.1 23 a.toNat = 0 → XS (slB a.toNat) (kr a.toNat) M.1 ∧ sInv (kr a.toNat) := fun q => by
  have hk := hX.2.2.2.1 a.toNat (by omega)
  exact hk.2.2 (by rw [← hk.1]; exact q.2)
theorem rest_k (hX : JX v r h ro ke kr t L M) (hM : JM v r ro ke kr t L N) : ∀ t, t < 2 → N.1 115 t = 0 ∨ N.1 115 t = 1 := fun s hs => by
  rw [hM.jke s hs]; exact (hX.2.2.2.1 s hs).2.1
theorem rest_x {a : Int} {u : Sg} (hX : JX v r h ro ke kr t L M) (h1 : ((0 ≤ a ∧ a ≤ 1) ∧ ¬ M.1 23 a.toNat = 0 → r0 = some (aI (u 13)) ∧ xOp r h v u M N) ∧ (¬ ((0 ≤ a ∧ a ≤ 1) ∧ ¬ M.1 23 a.toNat = 0) → r0 = some (aI (if 0 ≤ a ∧ a ≤ 1 then -1000003 else -1000001)) ∧ N = M)) : xfr M N := by
  by_cases g : (0 ≤ a ∧ a ≤ 1) ∧ ¬ M.1 23 a.toNat = 0
  · exact xfr_op hX.hB (h1.1 g).2
  · rw [(h1.2 g).2]; exact xfr_rf
theorem p_rest {a : Int} (hX : JX v r h ro ke kr t L M) (hM : JM v r ro ke kr t L N) (h1 : ((0 ≤ a ∧ a ≤ 1) ∧ ¬ M.1 23 a.toNat = 0 → some (aI z1) = some (aI (kr a.toNat 13)) ∧ xOp r h v (kr a.toNat) M N) ∧ (¬ ((0 ≤ a ∧ a ≤ 1) ∧ ¬ M.1 23 a.toNat = 0) → some (aI z1) = some (aI (if 0 ≤ a ∧ a ≤ 1 then -1000003 else -1000001)) ∧ N = M))
    (h2 : ((0 ≤ a ∧ a ≤ 1) ∧ ¬ N.1 115 a.toNat = 0 → some (aI z2) = some (aI (N.1 114 (264 * a.toNat + 13))) ∧ mRest r a.toNat v N N') ∧ (¬ ((0 ≤ a ∧ a ≤ 1) ∧ ¬ N.1 115 a.toNat = 0) → some (aI z2) = some (aI (if 0 ≤ a ∧ a ≤ 1 then -1000003 else -1000001)) ∧ N' = N)) : z1 = z2 ∧ JR N' := by
  by_cases g : (0 ≤ a ∧ a ≤ 1) ∧ ¬ M.1 23 a.toNat = 0
  · have hk := hX.2.2.2.1 a.toNat (by omega)
    have hm := hM.2.2.2.2.2.1 a.toNat (by omega)
    have g0 : ¬ ke a.toNat = 0 := by rw [← hk.1]; exact g.2
    obtain ⟨e1, x1⟩ := h1.1 g
    obtain ⟨e2, K, x2, k1, k2, k3⟩ := h2.1 ⟨g.1, by rw [hm.1]; exact g0⟩
    rw [hm.2 g0 13 (by decide)] at e2
    have hX1 := ((hX.op x1 (hk.2.2 g0).2).m (mfr_rec x2)).m (N := N') ⟨k1, fun i hi => k2 i (by omega)⟩
    have hX2 := hX1.row (w := N'.1 111) (fun q hq => (k3 q hq).trans (hm.2 g0 q hq))
    exact ⟨(aI_inj e1).trans (aI_inj e2).symm, _, _, _, _, _, _, _, _, hX2, (hM.rec hX.r5 x2).chg k1 ⟨by rw [k2 110 (by decide)], by rw [k2 110 (by decide)]⟩ (fun i hi => k2 i (by omega)) rfl⟩
  · have g2 : ¬ ((0 ≤ a ∧ a ≤ 1) ∧ ¬ N.1 115 a.toNat = 0) := fun q => by
      have hk := hX.2.2.2.1 a.toNat (by omega)
      exact g ⟨q.1, by rw [hk.1, ← hM.jke a.toNat (by omega)]; exact q.2⟩
    obtain ⟨e1, rfl⟩ := h1.2 g
    obtain ⟨e2, rfl⟩ := h2.2 g2
    exact ⟨(aI_inj e1).trans (aI_inj e2).symm, _, _, _, _, _, _, _, _, hX, hM⟩
-- the text
theorem app_x {z : Int} (h1 : r0 = some (aI (aApp t z)) ∧ N = if (0 ≤ z ∧ z ≤ 127) ∧ t ≤ 79 then xAdd t z M else M) : xfr M N := by
  rw [h1.2]
  split
  · intro i p q
    unfold xAdd
    exact ⟨by funext b; dsimp only; rw [vup_o (by omega), vup_o (by omega)], rfl⟩
  · exact xfr_rf
theorem p_app {a : Int} (hX : JX v r h ro ke kr t L M) (hM : JM v r ro ke kr t L N) (h1 : some (aI z1) = some (aI (aApp t a)) ∧ N = if (0 ≤ a ∧ a ≤ 127) ∧ t ≤ 79 then xAdd t a M else M)
    (h2 : ((0 ≤ a ∧ a ≤ 127) ∧ ¬ t = 80 → some (aI z2) = some (aI ((t : Int) + 1)) ∧ N' = (vup (vup N.1 116 t a) 110 7 ((t : Int) + 1), N.2)) ∧ (¬ ((0 ≤ a ∧ a ≤ 127) ∧ ¬ t = 80) → some (aI z2) = some (aI (if 0 ≤ a ∧ a ≤ 127 then -1000004 else -1000002)) ∧ N' = N)) : z1 = z2 ∧ JR N' := by
  have hB := hX.txB
  have e1 := aI_inj h1.1
  unfold aApp at e1
  by_cases g : (0 ≤ a ∧ a ≤ 127) ∧ t ≤ 79
  · rw [if_pos g.1, if_pos g.2] at e1
    obtain ⟨e2, rfl⟩ := h2.1 ⟨g.1, by omega⟩
    have e3 := aI_inj e2
    have hN := h1.2
    rw [if_pos g] at hN
    subst hN
    have hB' : pLt (fun k => if k = t then a else L k) (t + 1) := ⟨by omega, fun k hk => by
      dsimp only
      split
      · omega
      · exact hB.2 k (by omega)⟩
    have hX1 : JX v r h ro ke kr (t + 1) (fun k => if k = t then a else L k) (xAdd t a M) := by
      refine hX.txt rfl ?_ (fun k hk => ?_) hB' (fun i p q => ?_)
      · unfold xAdd
        dsimp only
        rw [vup_s]
      · unfold xAdd
        dsimp only
        rw [vup_o (by omega), vup_in]
        by_cases q : k = t
        · rw [if_pos q, if_pos q]
        · rw [if_neg q, if_neg q]
          exact hX.tx2 k (by omega)
      · have hp : i ≠ 24 := p
        have hq : i ≠ 25 := q
        unfold xAdd
        funext b
        dsimp only
        rw [vup_o (.inl hp), vup_o (.inl hq)]
    refine ⟨by omega, v, r, h, ro, ke, kr, t + 1, fun k => if k = t then a else L k, hX1.m ⟨rfl, fun i hi => ?_⟩, ?_⟩
    · funext b
      dsimp only
      rw [vup_o (by omega), vup_o (by omega)]
    · obtain ⟨a0, ⟨b1, b2⟩, c, d, e, f, g0⟩ := hM
      refine ⟨a0, ⟨?_, ?_⟩, fun k hk => ?_, ?_, fun i hi q hq => ?_, fun s hs => ?_, ?_⟩ <;> dsimp only
      · rw [vup_o (.inr (by decide)), vup_o (by omega)]; exact b1
      · rw [vup_s]; omega
      · rw [vup_o (by omega), vup_o (by omega), vup_o (by omega), vup_o (by omega)]; exact c k hk
      · rw [← d]; funext b; rw [vup_o (by omega), vup_o (by omega)]
      · rw [vup_o (by omega), vup_o (by omega)]; exact e i hi q hq
      · refine ⟨by rw [vup_o (by omega), vup_o (by omega)]; exact (f s hs).1, fun n q hq => ?_⟩
        rw [vup_o (by omega), vup_o (by omega)]
        exact (f s hs).2 n q hq
      · funext b
        rw [vup_o (by omega), vup_in, g0]
  · have hN := h1.2
    rw [if_neg g] at hN
    subst hN
    obtain ⟨e2, rfl⟩ := h2.2 (fun q => g ⟨q.1, by have := hB.1; omega⟩)
    have e3 := aI_inj e2
    refine ⟨?_, _, _, _, _, _, _, _, _, hX, hM⟩
    rw [e1, e3]
    by_cases g1 : 0 ≤ a ∧ a ≤ 127
    · rw [if_pos g1, if_pos g1, if_neg (fun q => g ⟨g1, q⟩)]
    · rw [if_neg g1, if_neg g1]
theorem clr_x : xfr M (vup M.1 24 1 0, M.2) := fun i p q => ⟨by funext b; dsimp only; rw [vup_o (by omega)], rfl⟩
theorem p_clr (hX : JX v r h ro ke kr t L M) (hM : JM v r ro ke kr t L (vup M.1 24 1 0, M.2)) (h1 : some (aI z1) = some (aI (t : Int)) ∧ N = (vup M.1 24 1 0, M.2)) (h2 : some (aI z2) = some (aI (N.1 110 7)) ∧ N' = (vup N.1 110 7 0, N.2)) : z1 = z2 ∧ JR N' := by
  obtain ⟨e1, rfl⟩ := h1
  obtain ⟨e2, rfl⟩ := h2
  rw [hM.jt] at e2
  have hX1 : JX v r h ro ke kr 0 L (vup M.1 24 1 0, M.2) := by
    refine hX.txt rfl ?_ (fun k hk => absurd hk (by omega)) ⟨by omega, fun k hk => absurd hk (by omega)⟩ (fun i p q => ?_)
    · dsimp only
      rw [vup_s]
      rfl
    · have hp : i ≠ 24 := p
      funext b
      dsimp only
      rw [vup_o (.inl hp)]
  refine ⟨(aI_inj e1).trans (aI_inj e2).symm, v, r, h, ro, ke, kr, 0, L, hX1.m ⟨rfl, fun i hi => ?_⟩, ?_⟩
  · funext b
    dsimp only
    rw [vup_o (by omega)]
  · obtain ⟨a0, ⟨b1, b2⟩, c, d, e, f, g0⟩ := hM
    refine ⟨a0, ⟨?_, ?_⟩, fun k hk => ?_, ?_, fun i hi q hq => ?_, fun s hs => ?_, ?_⟩ <;> dsimp only
    · rw [vup_o (.inr (by decide))]; exact b1
    · rw [vup_s]; rfl
    · rw [vup_o (by omega), vup_o (by omega)]; exact c k hk
    · rw [← d]; funext b; rw [vup_o (by omega)]
    · rw [vup_o (by omega)]; exact e i hi q hq
    · refine ⟨by rw [vup_o (by omega)]; exact (f s hs).1, fun n q hq => ?_⟩
      rw [vup_o (by omega)]
      exact (f s hs).2 n q hq
    · rw [← g0]; funext b; rw [vup_o (by omega)]
theorem fau_z {A : Int} {p : Prop} (h1 : r0 = some (aI A) ∧ p) : ∃ z, r0 = some (aI z) := ⟨_, h1.1⟩
theorem p_fau (hX : JX v r h ro ke kr t L M) (hM : JM v r ro ke kr t L N) (h1 : some (aI z1) = some (aI (aFault L t)) ∧ ∃ (p : Nat) (q a f n : Int), xK M N p q a f n) (h2 : some (aI z2) = some (aI (aFault L t)) ∧ ∃ (p : Nat) (a f n : Int), tK N N' p a f n) : z1 = z2 ∧ JR N' := by
  obtain ⟨e1, _, _, _, _, _, x1⟩ := h1
  obtain ⟨e2, _, _, _, _, x2⟩ := h2
  exact ⟨(aI_inj e1).trans (aI_inj e2).symm, _, _, _, _, _, _, _, _, (hX.tx x1).m (mfr_tK x2), hM.tx x2⟩
-- play
theorem xPlay_z (h1 : xPlay r h v L t M r0 N) : ∃ z, r0 = some (aI z) := by
  rcases h1 with h1 | h1
  · exact ⟨_, h1.2.1⟩
  · exact ⟨_, h1.2.1⟩
theorem pPost_z (h1 : pPost r v L t M r0 N) : ∃ z, r0 = some (aI z) := by
  rcases h1 with h1 | h1
  · exact ⟨_, h1.2.1⟩
  · exact ⟨_, h1.2.1⟩
theorem xPlay_x (hX : JX v r h ro ke kr t L M) (h1 : xPlay r h v L t M r0 N) : xfr M N := by
  rcases h1 with ⟨-, -, N1, N2, ⟨_, _, _, _, _, x1⟩, x2, ⟨_, x3⟩, x4⟩ | ⟨-, -, _, _, _, _, _, x1⟩
  · exact xfr_tr (xfr_xK x1) (xfr_tr (xfr_rec hX.hB x2) (fun i p q => ⟨x3.2.1 i (by omega) (by omega) (by omega), by rw [x3.1]⟩))
  · exact xfr_xK x1
theorem pPl_inv {L : Nat → Int} {t : Nat} : ∀ n p w, sInv w → (pT L t n p).1 = true → sInv (pPl L t n p w).1
  | 0, _, w, hI, _ => hI
  | n + 1, p, w, hI, hT => by
    rw [pPl]
    split
    · rename_i hp
      rw [pT, if_pos hp] at hT
      have ho : (pA L t p).1 = true := by
        by_cases g : (pA L t p).1 = true
        · exact g
        · rw [if_neg g] at hT; cases hT
      rw [if_pos ho] at hT
      exact pPl_inv n _ _ (pE_inv hI ho) hT
    · exact hI
theorem p_play (hX : JX v r h ro ke kr t L M) (hM : JM v r ro ke kr t L N) (h1 : xPlay r h v L t M (some (aI z1)) N) (h2 : pPost r v L t N (some (aI z2)) N') : z1 = z2 ∧ JR N' := by
  rcases h1 with ⟨g, e1, N1, N2, ⟨_, _, _, _, _, x1⟩, x2, ⟨_, x3⟩, x4⟩ | ⟨g, e1, _, _, _, _, _, x1⟩
  · rcases h2 with ⟨g2, e2, K1, K2, ⟨_, _, _, _, k1⟩, k2, k3, k4, k5, k6⟩ | ⟨g2, -⟩
    · have hw := pPl_inv 80 0 v hX.inv g
      refine ⟨(aI_inj e1).trans (aI_inj e2).symm, _, _, _, _, _, _, _, _, (((hX.play x1 x2 x3 x4 hw).m (mfr_tK k1)).m (mfr_rec k2)).m ⟨k3, fun i hi => k4 i (by omega) (fun q => ?_)⟩, ((hM.tx k1).rec hX.r5 k2).chg k3 ⟨k5 3 (by decide), k5 7 (by decide)⟩ (fun i hi => k4 i (by omega) (fun q => ?_)) k6⟩
      · unfold mL at q
        simp at q
        omega
      · unfold mL at q
        simp at q
        omega
    · exact absurd g g2
  · rcases h2 with ⟨g2, -⟩ | ⟨g2, e2, _, _, _, _, k1⟩
    · exact absurd g2 g
    · exact ⟨(aI_inj e1).trans (aI_inj e2).symm, _, _, _, _, _, _, _, _, (hX.tx x1).m (mfr_tK k1), hM.tx k1⟩
end PP
