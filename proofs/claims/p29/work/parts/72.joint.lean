/-! ===== the class and the twin side by side (by hand) ===== -/
theorem sCi_congr {v w : Sg} : ∀ n, (∀ s, s < n → w (256 + s) = v (256 + s)) → sCi w n = sCi v n
  | 0, _ => rfl
  | n + 1, h => by rw [sCi, sCi, sCi_congr n (fun s hs => h s (by omega)), h n (by omega)]
theorem XS.row {b : Nat} {v w : Sg} {f : Nat → Nat → Int} (h : XS b v f) (e : ∀ q, q < 264 → w q = v q) : XS b w f := by
  have ed : sDrw w = sDrw v := sDrw_congr (fun s hs => e _ (by omega))
  have eg : sGo w 8 = sGo v 8 := sGo_congr 8 (fun s hs => e _ (by omega))
  refine ⟨fun s hs => ⟨(xs_man h hs).trans (e _ (by omega)).symm, (xs_dem h hs).trans (e _ (by omega)).symm, (xs_lea h hs).trans (e _ (by omega)).symm, (xs_got h hs).trans (e _ (by omega)).symm, (xs_cip h hs).trans (e _ (by omega)).symm⟩, ⟨fun p hp => (xs_off h hp).trans (e _ (by omega)).symm, fun k hk => (xs_set h hk).trans (e _ (by omega)).symm, fun m hm => (xs_pre h hm).trans (e _ (by omega)).symm, fun m hm => (xs_sb h hm).trans (e _ (by omega)).symm⟩, ⟨?_, ?_, ?_⟩, ⟨?_, ?_, ?_, ?_, ?_, ?_, ?_, fun q => ?_⟩, ?_⟩
  · rw [ed]; exact xs_drw h
  · rw [e 10 (by omega)]; exact xs_mc h
  · rw [e 10 (by omega)]; exact xs_oc h
  · rw [e 0 (by omega)]; exact xs_vol h
  · rw [e 13 (by omega)]; exact xs_tim h
  · rw [e 14 (by omega)]; exact xs_mad h
  · rw [e 16 (by omega)]; exact xs_spi h
  · rw [e 17 (by omega)]; exact xs_lf h
  · rw [e 20 (by omega)]; exact xs_sl h
  · rw [e 22 (by omega)]; exact xs_st h
  · rw [e 22 (by omega)] at q
    rw [e 23 (by omega), e 21 (by omega)]; exact xs_sp h q
  · rw [e 15 (by omega), eg]; exact xs_sum h
theorem sInv.row {v w : Sg} (h : sInv v) (e : ∀ q, q < 264 → w q = v q) : sInv w := by
  refine ⟨fun s hs => by rw [e (24 + 5 * s) (by omega), e (24 + 5 * s + 1) (by omega), e (24 + 5 * s + 2) (by omega), e (24 + 5 * s + 3) (by omega), e (256 + s) (by omega)]; exact h.1 s hs, by rw [sCi_congr 8 (fun s hs => e _ (by omega))]; exact h.2.1, fun p hp => by rw [e _ (by omega)]; exact h.2.2.1 p hp, ?_, ?_, ?_⟩
  · rw [e 1 (by omega), e 2 (by omega), e 3 (by omega), e 4 (by omega), e 5 (by omega), e 6 (by omega), e 7 (by omega), e 8 (by omega), e 9 (by omega)]
    exact h.2.2.2.1
  · rw [e 10 (by omega), e 11 (by omega), e 12 (by omega)]
    exact h.2.2.2.2.1
  · rw [e 0 (by omega), e 17 (by omega), e 20 (by omega), e 21 (by omega), e 22 (by omega), e 23 (by omega)]
    exact h.2.2.2.2.2
/-- the class's records: r of them, in the cells h, as the rows ro -/
def jH (r : Nat) (h : Nat → Nat) (ro : Nat → Sg) (M : Mem) : Prop := (M.1 0 8 = (r : Int) ∧ r ≤ 5) ∧ (∀ k, k < 5 → M.2 21 k = some (h k)) ∧ (∀ k, k < 5 → stB (h k) ∧ 40 ≤ h k ∧ h k ≤ 80) ∧ (∀ j k, j < 5 → k < 5 → h j = h k → j = k) ∧ ∀ i, i < r → XS (h i) (ro i) M.1 ∧ sInv (ro i)
def jK (ke : Nat → Int) (kr : Nat → Sg) (M : Mem) : Prop := ∀ s, s < 2 → M.1 23 s = ke s ∧ (ke s = 0 ∨ ke s = 1) ∧ (¬ ke s = 0 → XS (slB s) (kr s) M.1 ∧ sInv (kr s))
def jT (t : Nat) (L : Nat → Int) (M : Mem) : Prop := M.1 24 1 = (t : Int) ∧ (∀ k, k < t → M.1 25 k = L k) ∧ pLt L t
def jC (M : Mem) : Prop := ∀ k, k < 9 → M.1 1001 k = tLo k ∧ M.1 1002 k = tHi k
def JX (v : Sg) (r : Nat) (h : Nat → Nat) (ro : Nat → Sg) (ke : Nat → Int) (kr : Nat → Sg) (t : Nat) (L : Nat → Int) (M : Mem) : Prop := LayX M.2 ∧ (XS 1 v M.1 ∧ sInv v) ∧ jH r h ro M ∧ jK ke kr M ∧ jT t L M ∧ jC M
/-- the class's cells and the twin's, each side left alone by the other's calls -/
def xfr (M N : Mem) : Prop := ∀ i, 110 ≤ i → i < 1000 → N.1 i = M.1 i ∧ N.2 i = M.2 i
def mfr (M N : Mem) : Prop := N.2 = M.2 ∧ ∀ i, (i < 110 ∨ 1000 ≤ i) → N.1 i = M.1 i
theorem slB_b {s : Nat} (hs : s < 2) : 90 ≤ slB s ∧ slB s + 10 ≤ 110 := by unfold slB; omega
section JJ
variable {v w : Sg} {r : Nat} {h : Nat → Nat} {ro : Nat → Sg} {ke : Nat → Int} {kr : Nat → Sg} {t : Nat} {L : Nat → Int} {M K N : Mem}
theorem JX.chg (hJ : JX v r h ro ke kr t L M) (h2 : N.2 = M.2) (h24 : N.1 24 1 = M.1 24 1) (h1 : ∀ i, i ≠ 24 → (i = 0 ∨ (21 ≤ i ∧ i < 26) ∨ (40 ≤ i ∧ i < 110) ∨ 1000 ≤ i) → N.1 i = M.1 i) (hX : XS 1 w N.1) (hI : sInv w) : JX w r h ro ke kr t L N := by
  obtain ⟨a1, -, ⟨b1, b2, b3, b4, b5⟩, c, ⟨d1, d2, d3⟩, e⟩ := hJ
  refine ⟨by rw [h2]; exact a1, ⟨hX, hI⟩, ⟨⟨by rw [h1 0 (by decide) (by omega)]; exact b1.1, b1.2⟩, fun k hk => by rw [h2]; exact b2 k hk, b3, b4, fun i hi => ?_⟩, fun s hs => ?_, ⟨by rw [h24]; exact d1, fun k hk => by rw [h1 25 (by decide) (by omega)]; exact d2 k hk, d3⟩, fun k hk => by rw [h1 1001 (by decide) (by omega), h1 1002 (by decide) (by omega)]; exact e k hk⟩
  · have hb := (b3 i (by omega)).2
    exact ⟨(b5 i hi).1.keep (fun j p q => h1 j (by omega) (by omega)), (b5 i hi).2⟩
  · have hb := slB_b hs
    obtain ⟨c1, c2, c3⟩ := c s hs
    exact ⟨by rw [h1 23 (by decide) (by omega)]; exact c1, c2, fun q => ⟨(c3 q).1.keep (fun j p q => h1 j (by omega) (by omega)), (c3 q).2⟩⟩
theorem JX.keep (hJ : JX v r h ro ke kr t L M) (h2 : N.2 = M.2) (h24 : N.1 24 1 = M.1 24 1) (h1 : ∀ i, i ≠ 24 → (i < 11 ∨ (21 ≤ i ∧ i < 26) ∨ (40 ≤ i ∧ i < 110) ∨ 1000 ≤ i) → N.1 i = M.1 i) : JX v r h ro ke kr t L N :=
  hJ.chg h2 h24 (fun i q1 q2 => h1 i q1 (by omega)) (hJ.2.1.1.keep (fun i p q => h1 i (by omega) (by omega))) hJ.2.1.2
theorem JX.m (hJ : JX v r h ro ke kr t L M) (hF : mfr M N) : JX v r h ro ke kr t L N :=
  hJ.keep hF.1 (by rw [hF.2 24 (by decide)]) (fun i _ q => hF.2 i (by omega))
theorem JX.fzk {a c a2 c2 : Nat} (hJ : JX v r h ro ke kr t L M) (hF : fz a c a2 c2 M N) (hs : ∀ i, (i < 11 ∨ (21 ≤ i ∧ i < 26) ∨ (40 ≤ i ∧ i < 110) ∨ 1000 ≤ i) → (i < a ∨ c ≤ i) ∧ (i < a2 ∨ c2 ≤ i)) : JX v r h ro ke kr t L N :=
  hJ.keep hF.1 (by rw [hF.2 24 (hs 24 (by decide)).1 (hs 24 (by decide)).2]) (fun i _ q => hF.2 i (hs i q).1 (hs i q).2)
theorem JX.tx {p : Nat} {q a f n : Int} (hJ : JX v r h ro ke kr t L M) (hK : xK M N p q a f n) : JX v r h ro ke kr t L N :=
  hJ.keep hK.1 (hK.2.2.1 1 (by decide)) (fun i q _ => hK.2.1 i q)
theorem JX.row (hJ : JX v r h ro ke kr t L M) (e : ∀ q, q < 264 → w q = v q) : JX w r h ro ke kr t L M :=
  hJ.chg rfl rfl (fun _ _ _ => rfl) (hJ.2.1.1.row e) (hJ.2.1.2.row e)
/-- the rows behind a record -/
def rr (r : Nat) (v : Sg) (ro : Nat → Sg) : Nat → Sg := fun i => if i = min r 4 then v else if r = 5 then ro (i + 1) else ro i
theorem xh_inj (hr : r ≤ 5) (hi : ∀ j k, j < 5 → k < 5 → h j = h k → j = k) : ∀ j k, j < 5 → k < 5 → xh r h j = xh r h k → j = k := by
  intro j k hj hk e
  unfold xh at e
  split at e
  · dsimp only at e
    split at e <;> split at e
    · omega
    · have := hi _ _ (by omega) (by omega) e; omega
    · have := hi _ _ (by omega) (by omega) e; omega
    · have := hi _ _ (by omega) (by omega) e; omega
  · exact hi j k hj hk e
theorem JX.rec (hJ : JX v r h ro ke kr t L M) (hR : xRec r h v M K) : JX v (min r 4 + 1) (xh r h) (rr r v ro) ke kr t L K := by
  obtain ⟨a1, ⟨a2, a3⟩, ⟨b1, b2, b3, b4, b5⟩, c, ⟨d1, d2, d3⟩, e⟩ := hJ
  obtain ⟨f1, f2, f3, f4, f5, f6⟩ := hR
  have hr5 := b1.2
  have hBB := xh_p (P := fun b => stB b ∧ 40 ≤ b ∧ b ≤ 80) (r := r) b3
  have hb := hBB (min r 4) (by omega)
  have hIn := xh_inj hr5 b4
  refine ⟨a1.keep f2, ⟨a2.keep (fun i p q => f6 i (by omega) (by omega)), a3⟩, ⟨⟨f3, by omega⟩, f1, hBB, hIn, fun i hi => ?_⟩, fun s hs => ?_, ⟨by rw [f6 24 (by decide) (by omega)]; exact d1, fun k hk => by rw [f6 25 (by decide) (by omega)]; exact d2 k hk, d3⟩, fun k hk => by rw [f6 1001 (by decide) (by omega), f6 1002 (by decide) (by omega)]; exact e k hk⟩
  · by_cases hi4 : i = min r 4
    · subst hi4
      rw [rr, if_pos rfl]
      exact ⟨f5, a3⟩
    · rw [rr, if_neg hi4]
      have hbi := hBB i (by omega)
      have hne : xh r h i ≠ xh r h (min r 4) := fun q => hi4 (hIn _ _ (by omega) (by omega) q)
      have hd := ab_d hbi.1 hb.1 hne
      have hk : ∀ j, xh r h i ≤ j → j < xh r h i + 10 → K.1 j = M.1 j := fun j p q => f6 j (by omega) (by omega)
      by_cases h5 : r = 5
      · rw [if_pos h5]
        have ex : xh r h i = h (i + 1) := by unfold xh; rw [if_pos h5, if_neg (by omega)]
        rw [ex] at hk ⊢
        exact ⟨(b5 (i + 1) (by omega)).1.keep hk, (b5 (i + 1) (by omega)).2⟩
      · rw [if_neg h5]
        have ex : xh r h i = h i := by unfold xh; rw [if_neg h5]
        rw [ex] at hk ⊢
        exact ⟨(b5 i (by omega)).1.keep hk, (b5 i (by omega)).2⟩
  · have hsb := slB_b hs
    obtain ⟨c1, c2, c3⟩ := c s hs
    exact ⟨by rw [f6 23 (by decide) (by omega)]; exact c1, c2, fun q => ⟨(c3 q).1.keep (fun j p q => f6 j (by omega) (by omega)), (c3 q).2⟩⟩
theorem JX.op (hJ : JX v r h ro ke kr t L M) (hO : xOp r h v w M N) (hI : sInv w) : JX w (min r 4 + 1) (xh r h) (rr r v ro) ke kr t L N := by
  obtain ⟨K, hR, hF, hX⟩ := hO
  exact (hJ.rec hR).chg hF.1 (by rw [hF.2 24 (by decide) (by decide)]) (fun i _ q => hF.2 i (by omega) (by omega)) hX hI
theorem JX.play (hJ : JX v r h ro ke kr t L M) {N1 N2 : Mem} {p1 p : Nat} {q a f n : Int} (h1 : xK M N1 p1 q a f n) (h2 : xRec r h v N1 N2) (h3 : xJ N2 N p) (hX : XS 1 w N.1) (hI : sInv w) : JX w (min r 4 + 1) (xh r h) (rr r v ro) ke kr t L N :=
  ((hJ.tx h1).rec h2).chg h3.1 (h3.2.2.1 1 (by decide)) (fun i q1 q2 => h3.2.1 i q1 (by omega) (by omega)) hX hI
theorem JX.undo {p : Nat} {u : Sg} (hJ : JX v (p + 1) h ro ke kr t L M) (hU : xUndo p u M N) (hu : sInv u) : JX u p h ro ke kr t L N := by
  obtain ⟨a1, ⟨a2, a3⟩, ⟨b1, b2, b3, b4, b5⟩, c, ⟨d1, d2, d3⟩, e⟩ := hJ
  obtain ⟨f1, f2, f3, f4, f5⟩ := hU
  refine ⟨by rw [f1]; exact a1, ⟨f4, hu⟩, ⟨⟨f2, by omega⟩, fun k hk => by rw [f1]; exact b2 k hk, b3, b4, fun i hi => ?_⟩, fun s hs => ?_, ⟨by rw [f5 24 (by decide)]; exact d1, fun k hk => by rw [f5 25 (by decide)]; exact d2 k hk, d3⟩, fun k hk => by rw [f5 1001 (by decide), f5 1002 (by decide)]; exact e k hk⟩
  · have hb := (b3 i (by omega)).2
    exact ⟨(b5 i (by omega)).1.keep (fun j p q => f5 j (by omega)), (b5 i (by omega)).2⟩
  · have hsb := slB_b hs
    obtain ⟨c1, c2, c3⟩ := c s hs
    exact ⟨by rw [f5 23 (by decide)]; exact c1, c2, fun q => ⟨(c3 q).1.keep (fun j p q => f5 j (by omega)), (c3 q).2⟩⟩
theorem JX.save {s : Nat} (hs : s < 2) (hJ : JX v r h ro ke kr t L M) (hU : xSave s v M N) : JX v r h ro (fun i => if i = s then 1 else ke i) (fun i => if i = s then v else kr i) t L N := by
  obtain ⟨a1, ⟨a2, a3⟩, ⟨b1, b2, b3, b4, b5⟩, c, ⟨d1, d2, d3⟩, e⟩ := hJ
  obtain ⟨f1, f2, f3, f4, f5⟩ := hU
  have hsb := slB_b hs
  refine ⟨by rw [f1]; exact a1, ⟨a2.keep (fun j p q => f5 j (by omega) (by omega)), a3⟩, ⟨⟨by rw [f5 0 (by decide) (by omega)]; exact b1.1, b1.2⟩, fun k hk => by rw [f1]; exact b2 k hk, b3, b4, fun i hi => ?_⟩, fun i hi => ?_, ⟨by rw [f5 24 (by decide) (by omega)]; exact d1, fun k hk => by rw [f5 25 (by decide) (by omega)]; exact d2 k hk, d3⟩, fun k hk => by rw [f5 1001 (by decide) (by omega), f5 1002 (by decide) (by omega)]; exact e k hk⟩
  · have hb := (b3 i (by omega)).2
    exact ⟨(b5 i hi).1.keep (fun j p q => f5 j (by omega) (by omega)), (b5 i hi).2⟩
  · dsimp only
    by_cases hi2 : i = s
    · subst hi2
      rw [if_pos rfl, if_pos rfl]
      exact ⟨f3, .inr rfl, fun _ => ⟨f2, a3⟩⟩
    · rw [if_neg hi2, if_neg hi2]
      obtain ⟨c1, c2, c3⟩ := c i hi
      have hd : slB i + 10 ≤ slB s ∨ slB s + 10 ≤ slB i := by unfold slB; omega
      have hib := slB_b hi
      exact ⟨by rw [f4 i hi2]; exact c1, c2, fun q => ⟨(c3 q).1.keep (fun j p q => f5 j (by omega) (by omega)), (c3 q).2⟩⟩
theorem JX.txt (hJ : JX v r h ro ke kr t L M) {t' : Nat} {L' : Nat → Int} (h2 : N.2 = M.2) (h24 : N.1 24 1 = (t' : Int)) (h25 : ∀ k, k < t' → N.1 25 k = L' k) (hB : pLt L' t') (h1 : ∀ i, i ≠ 24 → i ≠ 25 → N.1 i = M.1 i) : JX v r h ro ke kr t' L' N := by
  obtain ⟨a1, ⟨a2, a3⟩, ⟨b1, b2, b3, b4, b5⟩, c, ⟨d1, d2, d3⟩, e⟩ := hJ
  refine ⟨by rw [h2]; exact a1, ⟨a2.keep (fun j p q => h1 j (by omega) (by omega)), a3⟩, ⟨⟨by rw [h1 0 (by decide) (by decide)]; exact b1.1, b1.2⟩, fun k hk => by rw [h2]; exact b2 k hk, b3, b4, fun i hi => ?_⟩, fun i hi => ?_, ⟨h24, h25, hB⟩, fun k hk => by rw [h1 1001 (by decide) (by decide), h1 1002 (by decide) (by decide)]; exact e k hk⟩
  · have hb := (b3 i (by omega)).2
    exact ⟨(b5 i hi).1.keep (fun j p q => h1 j (by omega) (by omega)), (b5 i hi).2⟩
  · have hib := slB_b hi
    obtain ⟨c1, c2, c3⟩ := c i hi
    exact ⟨by rw [h1 23 (by decide) (by decide)]; exact c1, c2, fun q => ⟨(c3 q).1.keep (fun j p q => h1 j (by omega) (by omega)), (c3 q).2⟩⟩
/-! the twin's side -/
theorem nL {Lf : List Nat} (h : 110 ∉ Lf ∧ 113 ∉ Lf ∧ 114 ∉ Lf ∧ 115 ∉ Lf ∧ 116 ∉ Lf ∧ 117 ∉ Lf ∧ 118 ∉ Lf) : ∀ i, i = 110 ∨ i = 113 ∨ i = 114 ∨ i = 115 ∨ i = 116 ∨ i = 117 ∨ i = 118 → i ∉ Lf := by
  intro i hi
  rcases hi with rfl | rfl | rfl | rfl | rfl | rfl | rfl
  · exact h.1
  · exact h.2.1
  · exact h.2.2.1
  · exact h.2.2.2.1
  · exact h.2.2.2.2.1
  · exact h.2.2.2.2.2.1
  · exact h.2.2.2.2.2.2
theorem mfr_fr {Lf : List Nat} (hF : fr Lf M N) (hs : ∀ i, i ∈ Lf → 110 ≤ i ∧ i < 1000) : mfr M N := ⟨hF.1, fun i hi => hF.2 i (fun q => by have := hs i q; omega)⟩
theorem mfr_rec (hR : mRec r v M N) : mfr M N := ⟨hR.1, fun i hi => hR.2.1 i (by omega) (by omega)⟩
theorem mfr_tr (h1 : mfr M K) (h2 : mfr K N) : mfr M N := ⟨h2.1.trans h1.1, fun i hi => (h2.2 i hi).trans (h1.2 i hi)⟩
theorem mfr_op (hO : mOp r v w M N) : mfr M N := by
  obtain ⟨K, hR, hF, -⟩ := hO
  exact mfr_tr (mfr_rec hR) (mfr_fr hF (by decide))
theorem mfr_tK {p : Nat} {a f n : Int} (hK : tK M N p a f n) : mfr M N := ⟨hK.1, fun i hi => hK.2.1 i (by omega)⟩
theorem xfr_tr (h1 : xfr M K) (h2 : xfr K N) : xfr M N := fun i p q => ⟨(h2 i p q).1.trans (h1 i p q).1, (h2 i p q).2.trans (h1 i p q).2⟩
theorem xfr_fz {a c a2 c2 : Nat} (hF : fz a c a2 c2 M N) (hc : c ≤ 110 ∧ c2 ≤ 110) : xfr M N := fun i p q => ⟨hF.2 i (by omega) (by omega), by rw [hF.1]⟩
theorem xfr_rec (hB : ∀ k, k < 5 → stB (h k) ∧ 40 ≤ h k ∧ h k ≤ 80) (hR : xRec r h v M N) : xfr M N := fun i p q => by
  have hb := xh_p (P := fun b => stB b ∧ 40 ≤ b ∧ b ≤ 80) (r := r) hB (min r 4) (by omega)
  exact ⟨hR.2.2.2.2.2 i (by omega) (by omega), hR.2.1 i (by omega)⟩
theorem xfr_op (hB : ∀ k, k < 5 → stB (h k) ∧ 40 ≤ h k ∧ h k ≤ 80) (hO : xOp r h v w M N) : xfr M N := by
  obtain ⟨K, hR, hF, -⟩ := hO
  exact xfr_tr (xfr_rec hB hR) (xfr_fz hF (by decide))
theorem xfr_xK {p : Nat} {q a f n : Int} (hK : xK M N p q a f n) : xfr M N := fun i p q => ⟨hK.2.1 i (by omega), by rw [hK.1]⟩
theorem xfr_rf : xfr M M := fun _ _ _ => ⟨rfl, rfl⟩
end JJ
