/-! ===== all wind is accounted for: what the law asks of a state's row (by hand) ===== -/
def wI (n : Nat) (v : Sg) : Prop := sInv v ∧ (3000 + v 14 = v 0 + v 15 + v 16) ∧ (0 ≤ v 14 ∧ v 14 ≤ 500 * v 13) ∧ (0 ≤ v 15 ∧ 0 ≤ v 16) ∧ (0 ≤ v 13 ∧ v 13 ≤ (n : Int)) ∧ v 18 - v 19 = v 17
theorem wI.inv {n : Nat} {v : Sg} (h : wI n v) : sInv v := h.1
theorem wI.chg {n : Nat} {v w : Sg} (h : wI n v) (hI : sInv w) (e : ∀ i, i = 0 ∨ (13 ≤ i ∧ i < 20) → w i = v i) : wI n w := by
  obtain ⟨-, h1, h2, h3, h4, h5⟩ := h
  refine ⟨hI, ?_, ?_, ?_, ?_, ?_⟩
  · rw [e 14 (by omega), e 0 (by omega), e 15 (by omega), e 16 (by omega)]; exact h1
  · rw [e 14 (by omega), e 13 (by omega)]; exact h2
  · rw [e 15 (by omega), e 16 (by omega)]; exact h3
  · rw [e 13 (by omega)]; exact h4
  · rw [e 18 (by omega), e 19 (by omega), e 17 (by omega)]; exact h5
theorem wI.mono {n m : Nat} {v : Sg} (h : wI n v) (hm : n ≤ m) : wI m v := by
  obtain ⟨h0, h1, h2, h3, h4, h5⟩ := h
  exact ⟨h0, h1, h2, h3, ⟨h4.1, by omega⟩, h5⟩
theorem wI_0 : wI 0 sg0 := ⟨sg0_inv, by decide +kernel, by decide +kernel, by decide +kernel, by decide +kernel, by decide +kernel⟩
theorem wBeg {v : Sg} (h : sInv v) (h2 : v 18 - v 19 = v 17) : (sBeg v 0 = v 0 ∧ sBeg v 13 = v 13 ∧ sBeg v 14 = v 14 ∧ sBeg v 15 = v 15 ∧ sBeg v 16 = v 16) ∧ sBeg v 18 - sBeg v 19 = sBeg v 17 := by
  have h17 := (iv_bel h).2.1
  unfold sBeg
  split
  · rcases (show v 17 = 0 ∨ v 17 = 1 by omega) with e | e
    · refine ⟨⟨?_, ?_, ?_, ?_, ?_⟩, ?_⟩ <;> simp [sup, e]
      omega
    · refine ⟨⟨?_, ?_, ?_, ?_, ?_⟩, ?_⟩ <;> simp [sup, e]
      omega
  · exact ⟨⟨rfl, rfl, rfl, rfl, rfl⟩, h2⟩
theorem wMak {v : Sg} (h : sInv v) : ∃ p o : Int, (0 ≤ p ∧ p ≤ 500 ∧ 0 ≤ o) ∧ (sMak v 0 = v 0 + p - o ∧ sMak v 14 = v 14 + p ∧ sMak v 16 = v 16 + o) ∧ (sMak v 13 = v 13 ∧ sMak v 15 = v 15 ∧ sMak v 17 = v 17 ∧ sMak v 18 = v 18 ∧ sMak v 19 = v 19) := by
  have hb := (iv_bel h).2.2.2.1
  by_cases h0 : 0 < v 22
  · have hp := sPart_b h h0
    refine ⟨sPart v, sOver v, ⟨hp.1, by omega, by unfold sOver; omega⟩, ?_, ?_⟩
    · unfold sMak
      rw [if_pos h0]
      refine ⟨?_, ?_, ?_⟩ <;> simp [sup]
    · unfold sMak
      rw [if_pos h0]
      refine ⟨?_, ?_, ?_, ?_, ?_⟩ <;> simp [sup]
  · refine ⟨0, 0, by decide, ?_, ?_⟩
    · unfold sMak
      rw [if_neg h0]
      omega
    · unfold sMak
      rw [if_neg h0]
      exact ⟨rfl, rfl, rfl, rfl, rfl⟩
theorem wFl {w : Sg} (h : sInv w) : ∃ g : Int, 0 ≤ g ∧ sFl w 192 0 = w 0 - g ∧ sFl w 192 15 = w 15 + g ∧ sFl w 192 13 = w 13 ∧ sFl w 192 14 = w 14 ∧ sFl w 192 16 = w 16 ∧ sFl w 192 17 = w 17 ∧ sFl w 192 18 = w 18 ∧ sFl w 192 19 = w 19 := by
  have hb := sLf_b h (sDrw w) true 192 (Nat.le_refl _)
  refine ⟨w 0 - sLf w (sDrw w) true 192, by omega, ?_, ?_, ?_, ?_, ?_, ?_, ?_, ?_⟩ <;> unfold sFl
  · rw [if_pos rfl]
    show sLf w (sDrw w) true 192 = _
    omega
  · rw [if_neg (by decide), if_pos rfl]
  · rw [if_neg (by decide), if_neg (by decide), if_neg (by decide)]
  · rw [if_neg (by decide), if_neg (by decide), if_neg (by decide)]
  · rw [if_neg (by decide), if_neg (by decide), if_neg (by decide)]
  · rw [if_neg (by decide), if_neg (by decide), if_neg (by decide)]
  · rw [if_neg (by decide), if_neg (by decide), if_neg (by decide)]
  · rw [if_neg (by decide), if_neg (by decide), if_neg (by decide)]
theorem sTick_13 {v : Sg} (h : sInv v) (h2 : v 18 - v 19 = v 17) : sTick v 13 = v 13 + 1 := by
  obtain ⟨⟨-, b2, -⟩, -⟩ := wBeg h h2
  obtain ⟨p, o, -, -, m1, -⟩ := wMak (sBeg_inv h)
  rw [sTick, sup_eq, sPmp, m1, b2]
theorem wI_tick {n : Nat} {v : Sg} (h : wI n v) : wI (n + 1) (sTick v) := by
  have h13 := sTick_13 h.1 h.2.2.2.2.2
  have hi := sTick_inv h.1
  obtain ⟨h0, h1, h2, h3, h4, h5⟩ := h
  obtain ⟨⟨b0, b1, b2, b3, b4⟩, b5⟩ := wBeg h0 h5
  obtain ⟨p, o, ⟨p0, p1, p2⟩, ⟨m0, m1, m2⟩, m3, m4, m5, m6, m7⟩ := wMak (sBeg_inv h0)
  obtain ⟨g, g0, f0, f1, f2, f3, f4, f5, f6, f7⟩ := wFl (sPmp_inv h0)
  have e : ∀ i, i ≠ 13 → sTick v i = sFl (sPmp v) 192 i := fun i hi => by rw [sTick]; exact sup_ne _ _ hi
  have q : ∀ i, sPmp v i = sMak (sBeg v) i := fun i => rfl
  refine ⟨hi, ?_, ?_, ?_, ?_, ?_⟩
  · rw [e 14 (by decide), e 0 (by decide), e 15 (by decide), e 16 (by decide), f3, f0, f1, f4, q, q, q, q, m1, m0, m4, m2]; omega
  · rw [e 14 (by decide), f3, h13, q, m1]; omega
  · rw [e 15 (by decide), e 16 (by decide), f1, f4, q, q, m4, m2]; omega
  · rw [h13]; omega
  · rw [e 18 (by decide), e 19 (by decide), e 17 (by decide), f5, f6, f7, q, q, q, m5, m6, m7]; exact b5
theorem wI_ticks {n : Nat} {v : Sg} (h : wI n v) : ∀ k, wI (n + k) (sTks v k) ∧ sTks v k 13 = v 13 + (k : Int)
  | 0 => ⟨h, by rw [sTks]; omega⟩
  | k + 1 => by
    obtain ⟨a, b⟩ := wI_ticks h k
    refine ⟨?_, ?_⟩
    · rw [sTks]; exact wI_tick a
    · rw [sTks, sTick_13 a.1 a.2.2.2.2.2, b]; omega
theorem sTks_1 (v : Sg) : sTks v 1 = sTick v := rfl
theorem wI_b {n : Nat} {v : Sg} (h : wI n v) (hn : n ≤ 1000) : (0 ≤ v 0 ∧ v 0 ≤ 20000) ∧ (0 ≤ v 13 ∧ v 13 ≤ 1000) ∧ (0 ≤ v 14 ∧ v 14 ≤ 500000) ∧ (0 ≤ v 15 ∧ v 15 ≤ 600000) ∧ (0 ≤ v 16 ∧ v 16 ≤ 600000) ∧ (0 ≤ v 20 ∧ v 20 ≤ 500) ∧ 3000 + v 14 = v 0 + v 15 + v 16 ∧ v 18 - v 19 = v 17 ∧ (0 ≤ v 17 ∧ v 17 ≤ 1) := by
  obtain ⟨h0, h1, h2, h3, h4, h5⟩ := h
  have hb := iv_bel h0
  omega
/-! what is told of a pipe -/
abbrev wOp (v : Sg) (s k : Nat) : Prop := (sOpn v (sDrw v) true s).testBit k = true
def wO (v : Sg) : Nat → Nat
  | 0 => 0
  | p + 1 => wO v p + (if wOp v (p / 24) (p % 24) then 1 else 0)
theorem wO_k (v : Sg) (s : Nat) : ∀ k, k ≤ 24 → wO v (24 * s + k) = wO v (24 * s) + (List.range k).countP (fun i => (sOpn v (sDrw v) true s).testBit i)
  | 0, _ => rfl
  | k + 1, hk => by
    rw [← Nat.add_assoc, wO, (p_div (show k < 24 by omega)).1, (p_div (show k < 24 by omega)).2, wO_k v s k (by omega), List.range_succ, List.countP_append, List.countP_cons, List.countP_nil]
    by_cases h : (sOpn v (sDrw v) true s).testBit k = true
    · rw [if_pos h]
      omega
    · rw [if_neg h]
      omega
theorem wO_om (v : Sg) : ∀ n, wO v (24 * n) = sOm v (sDrw v) true n
  | 0 => rfl
  | n + 1 => by
    rw [show 24 * (n + 1) = 24 * n + 24 by omega, wO_k v n 24 (Nat.le_refl _), wO_om v n, sOm, pc, pcf_bits]
theorem wO_le (v : Sg) : ∀ p, wO v p ≤ p
  | 0 => Nat.le_refl _
  | p + 1 => by
    have := wO_le v p
    rw [wO]
    split <;> omega
theorem w_open {v : Sg} {s k : Nat} (h : (sDrw v).testBit s = false) : ¬ wOp v s k := by
  unfold wOp sOpn
  rw [if_neg (by rw [h]; decide), Nat.zero_testBit]
  decide
theorem sGt_0 {v : Sg} (hI : sInv v) {s k : Nat} (hs : s < 8) (hk : k < 24) (h : ¬ wOp v s k) : sGt v (sDrw v) true (24 * s + k) = 0 := by
  have hb := sLf_b hI (sDrw v) true (24 * s + k) (by omega)
  unfold sGt
  rw [sAs_at _ _ _ _ hk, sAk, if_neg h]
  omega
theorem sGt_b {v : Sg} (hI : sInv v) {p : Nat} (hp : p < 192) : 0 ≤ sGt v (sDrw v) true p ∧ sGt v (sDrw v) true p ≤ sAs v (sDrw v) true p ∧ sAs v (sDrw v) true p ≤ 45 := by
  have hb := sLf_b hI (sDrw v) true p (by omega)
  have ha := sAs_b hI (sDrw v) true hp
  unfold sGt
  omega
/-- the flows so far -/
def wF (v : Sg) (p : Nat) : Int := v 0 - sLf v (sDrw v) true p
theorem wF_step (v : Sg) (s : Nat) {k : Nat} (hk : k < 24) : wF v (24 * s + (k + 1)) = wF v (24 * s + k) + sGt v (sDrw v) true (24 * s + k) := by
  unfold wF sGt
  rw [sLf_step v _ _ _ hk, sAs_at _ _ _ _ hk]
  omega
theorem wF_b {v : Sg} (hI : sInv v) {p : Nat} (hp : p ≤ 192) : 0 ≤ wF v p ∧ wF v p ≤ v 0 := by
  have hb := sLf_b hI (sDrw v) true p hp
  unfold wF
  omega
theorem wO_step (v : Sg) (s : Nat) {k : Nat} (hk : k < 24) : wO v (24 * s + (k + 1)) = wO v (24 * s + k) + (if wOp v s k then 1 else 0) := by
  rw [← Nat.add_assoc, wO, (p_div hk).1, (p_div hk).2]
theorem sSp_step (v : Sg) (s : Nat) {k : Nat} (hk : k < 24) : sSp v (sDrw v) true (24 * s + (k + 1)) = sSp v (sDrw v) true (24 * s + k) + (if sRs v (sDrw v) true s k = 0 then 1 else 0) := by
  rw [← Nat.add_assoc, sSp, (p_div hk).1, (p_div hk).2]
/-- a pipe's reason, six cases -/
theorem rs_cases {v : Sg} (hI : sInv v) {s k : Nat} (hs : s < 8) (hk : k < 24) :
    (sRs v (sDrw v) true s k = 1 ∧ v (24 + 5 * s + 3) = 0 ∧ ¬ wOp v s k) ∨ (sRs v (sDrw v) true s k = 2 ∧ v (24 + 5 * s + 3) = 1 ∧ ¬ wOp v s k ∧ bt ((sAct v true (sMan v s) : Nat) : Int) k = false) ∨
    (sRs v (sDrw v) true s k = 3 ∧ v (24 + 5 * s + 3) = 1 ∧ wOp v s k) ∨ (sRs v (sDrw v) true s k = 4 ∧ v (24 + 5 * s + 3) = 1 ∧ wOp v s k) ∨ (sRs v (sDrw v) true s k = 5 ∧ v (24 + 5 * s + 3) = 1 ∧ wOp v s k) ∨
    (sRs v (sDrw v) true s k = 0 ∧ v (24 + 5 * s + 3) = 1 ∧ wOp v s k ∧ 0 < sGt v (sDrw v) true (24 * s + k) ∧ sGt v (sDrw v) true (24 * s + k) = sAs v (sDrw v) true (24 * s + k) ∧ v (24 + 5 * s + 2) ≤ sPr v (sDrw v) true (sMan v s)) := by
  have hd : (sDrw v).testBit s = true ↔ v (24 + 5 * s + 3) = 1 := sDr_bit hI 8 (Nat.le_refl _) s hs
  have h1 := (iv_st hI hs).2.2.2.1
  have hg := sGt_b hI (show 24 * s + k < 192 by omega)
  have ha := sAs_b hI (sDrw v) true (show 24 * s + k < 192 by omega)
  by_cases d : (sDrw v).testBit s = true
  · have d1 := hd.mp d
    by_cases o : wOp v s k
    · have e : sRs v (sDrw v) true s k = if sPr v (sDrw v) true (sMan v s) < v (24 + 5 * s + 2) then 3 else if sGt v (sDrw v) true (24 * s + k) < sAs v (sDrw v) true (24 * s + k) then 4 else if sAs v (sDrw v) true (24 * s + k) = 0 then 5 else 0 := by
        unfold sRs
        rw [if_neg (by rw [d]; decide), if_neg (by rw [show (sOpn v (sDrw v) true s).testBit k = true from o]; decide)]
      rw [e]
      by_cases c1 : sPr v (sDrw v) true (sMan v s) < v (24 + 5 * s + 2)
      · rw [if_pos c1]; exact .inr (.inr (.inl ⟨rfl, d1, o⟩))
      · rw [if_neg c1]
        by_cases c2 : sGt v (sDrw v) true (24 * s + k) < sAs v (sDrw v) true (24 * s + k)
        · rw [if_pos c2]; exact .inr (.inr (.inr (.inl ⟨rfl, d1, o⟩)))
        · rw [if_neg c2]
          by_cases c3 : sAs v (sDrw v) true (24 * s + k) = 0
          · rw [if_pos c3]; exact .inr (.inr (.inr (.inr (.inl ⟨rfl, d1, o⟩))))
          · rw [if_neg c3]; exact .inr (.inr (.inr (.inr (.inr ⟨rfl, d1, o, by omega, by omega, by omega⟩))))
    · have o2 : (sOpn v (sDrw v) true s).testBit k = false := by simpa using o
      have e : sRs v (sDrw v) true s k = 2 := by
        unfold sRs
        rw [if_neg (by rw [d]; decide), if_pos o2]
      refine .inr (.inl ⟨e, d1, o, ?_⟩)
      unfold sOpn at o2
      rw [if_pos d, Nat.testBit_or, Bool.or_eq_false_iff] at o2
      rw [bt, Int.toNat_natCast]
      exact o2.1
  · have d2 : (sDrw v).testBit s = false := by simpa using d
    have d3 : ¬ v (24 + 5 * s + 3) = 1 := fun q => d (hd.mpr q)
    refine .inl ⟨?_, by omega, w_open d2⟩
    unfold sRs
    rw [if_pos d2]
theorem a_stop (v : Sg) {s : Nat} (hs : s < 8) (w : Nat) (hw : w < 5) : aStop v (s : Int) (w : Int) = v (24 + 5 * s + w) := by
  unfold aStop
  rw [if_pos (by omega), if_pos (by omega), Int.toNat_natCast, Int.toNat_natCast]
theorem a_reason (v : Sg) {s k : Nat} (hs : s < 8) (hk : k < 24) : aReason v (s : Int) (k : Int) = sRs v (sDrw v) true s k := by
  unfold aReason
  rw [if_pos (by omega), if_pos (by omega), Int.toNat_natCast, Int.toNat_natCast]
theorem a_pipe (v : Sg) {s k : Nat} (hs : s < 8) (hk : k < 24) (w : Nat) (hw : w < 5) : aPipe v (s : Int) (k : Int) (w : Int) = sPi v s k w := by
  unfold aPipe
  rw [if_pos (by omega), if_pos (by omega), if_pos (by omega), Int.toNat_natCast, Int.toNat_natCast, Int.toNat_natCast]
theorem a_tell (v : Sg) (w : Nat) (hw : w < 10) : aTell v (w : Int) = sTell v w := by
  unfold aTell
  rw [if_pos (by omega), Int.toNat_natCast]
theorem a_chest (v : Sg) {m : Nat} (hm : m < 2) (w : Nat) (hw : w < 3) : aChest v (m : Int) (w : Int) = sCh v m w := by
  unfold aChest
  rw [if_pos (by omega), if_pos (by omega), Int.toNat_natCast, Int.toNat_natCast]
theorem sPi_2 {v : Sg} {s k : Nat} (o : wOp v s k) : sPi v s k 2 = sAs v (sDrw v) true (24 * s + k) ∧ sPi v s k 3 = sGt v (sDrw v) true (24 * s + k) := by
  unfold sPi
  have o2 : ¬ (sOpn v (sDrw v) true s).testBit k = false := by rw [show (sOpn v (sDrw v) true s).testBit k = true from o]; decide
  refine ⟨?_, ?_⟩
  · rw [if_neg (by decide), if_neg (by decide), if_neg o2, if_pos rfl]
  · rw [if_neg (by decide), if_neg (by decide), if_neg o2, if_neg (by decide), if_pos rfl]
theorem sPi_n {v : Sg} {s k : Nat} (o : ¬ wOp v s k) : sPi v s k 2 = -1000005 ∧ sPi v s k 3 = -1000005 := by
  unfold sPi
  have o2 : (sOpn v (sDrw v) true s).testBit k = false := by simpa using o
  refine ⟨?_, ?_⟩
  · rw [if_neg (by decide), if_neg (by decide), if_pos o2]
  · rw [if_neg (by decide), if_neg (by decide), if_pos o2]
theorem sPr_le {v : Sg} (hI : sInv v) {m : Nat} (hm : m < 2) : sPr v (sDrw v) true m ≤ sRes v ∧ 0 ≤ sPr v (sDrw v) true m ∧ sRes v ≤ 200 := by
  have h1 := sRes_b hI
  have h2 := sNs_b hI (sDrw v) true m 192 (Nat.le_refl _)
  have h3 := iv_los hI hm
  have h4 := Int.ediv_nonneg (Int.mul_nonneg h2.1 h3.1) (show (0 : Int) ≤ 100 by decide)
  have h5 := iv_set hI
  unfold sPr
  omega
theorem mi_sp (v : Sg) : ∀ p, (sSp v (sDrw v) true p = 0 → (sMi v (sDrw v) p).2.2 = false) ∧ (0 < sSp v (sDrw v) true p → (sMi v (sDrw v) p).2.2 = true) ∧ (sSp v (sDrw v) true p = 1 → (sMi v (sDrw v) p).1 = (sMi v (sDrw v) p).2.1)
  | 0 => ⟨fun _ => rfl, fun h => absurd h (by rw [sSp]; omega), fun h => absurd h (by rw [sSp]; omega)⟩
  | p + 1 => by
    obtain ⟨i1, i2, i3⟩ := mi_sp v p
    by_cases hr : sRs v (sDrw v) true (p / 24) (p % 24) = 0
    · rw [sSp, if_pos hr, sMi, if_pos hr]
      refine ⟨fun h => absurd h (by omega), fun _ => rfl, fun h => ?_⟩
      have h0 := i1 (by omega)
      dsimp only
      rw [if_pos (Or.inl h0), if_pos (Or.inl h0)]
    · rw [sSp, if_neg hr, sMi, if_neg hr]
      exact ⟨i1, i2, i3⟩
theorem mist_sp {v : Sg} (hI : sInv v) : (sSp v (sDrw v) true 192 = 0 → sMist v = -1000005) ∧ (0 < sSp v (sDrw v) true 192 → 0 ≤ sMist v) ∧ (sSp v (sDrw v) true 192 = 1 → sMist v = 0) ∧ (-1000005 ≤ sMist v ∧ sMist v ≤ 1000) := by
  obtain ⟨i1, i2, i3⟩ := mi_sp v 192
  have hl := sMi_le (v := v) (sDrw v) 192
  have hb := sMi_b hI (sDrw v) 192 (Nat.le_refl _)
  unfold sMist
  refine ⟨fun h => ?_, fun h => ?_, fun h => ?_, ?_⟩
  · rw [if_neg (by rw [i1 h]; decide)]
  · rw [if_pos (i2 h)]
    have := hl (i2 h)
    omega
  · rw [if_pos (i2 (by omega)), i3 h]
    omega
  · split <;> omega
/-! the search -/
theorem kOct_0 : kOct 0 = 0 := by decide
theorem sOpn_ci {v : Sg} {st s : Nat} (h : v (256 + s) = 0) : sOpn v st false s = 0 := by
  have e0 : sAct0 v false = 0 := by
    unfold sAct0 sFst
    split
    · exact kOct_0
    · rfl
  have e1 : sAct1 v false = 0 := by
    unfold sAct1 sSnd
    rw [e0]
    split <;> simp
  unfold sOpn
  split
  · have : sAct v false (sMan v s) = 0 := by
      unfold sAct
      split
      · exact e0
      · exact e1
    rw [this, h]
    rfl
  · rfl
theorem sCi_0 {v : Sg} (hI : sInv v) (n : Nat) : n ≤ 8 → sCi v n = 0 → ∀ s, s < n → v (256 + s) = 0 := by
  induction n with
  | zero =>
    intro _ _ s hs
    exact absurd hs (by omega)
  | succ n ih =>
    intro hn h s hs
    rw [sCi] at h
    by_cases e : s = n
    · subst e
      have hb := (iv_st hI (show s < 8 by omega)).2.2.2.2
      by_cases q : v (256 + s) = 0
      · exact q
      · have := pc_n0 (z := (v (256 + s)).toNat) (by omega) (by omega)
        omega
    · exact ih (by omega) (by omega) s (by omega)
theorem sSp_0 {v : Sg} {st : Nat} (h : ∀ s, s < 8 → sOpn v st false s = 0) : ∀ p, p ≤ 192 → sSp v st false p = 0
  | 0, _ => rfl
  | p + 1, hp => by
    rw [sSp, sSp_0 h p (by omega), if_neg]
    unfold sRs
    rw [h _ (by omega), Nat.zero_testBit]
    split
    · decide
    · rw [if_pos rfl]; decide
theorem search_ci {v : Sg} (hI : sInv v) (h : sH v 0 8 = true) : 0 < sCi v 8 := by
  by_cases q : sCi v 8 = 0
  · exfalso
    have h1 := sSp_0 (v := v) (st := sRow 0 8) (fun s hs => sOpn_ci (sCi_0 hI 8 (Nat.le_refl _) q s hs)) 192 (Nat.le_refl _)
    unfold sH at h
    rw [h1] at h
    exact absurd h (by decide)
  · omega
theorem a_search (v : Sg) (w : Nat) (hw : w < 3) : aSearch v (w : Int) = sSearch v w := by
  unfold aSearch
  rw [if_pos (by omega), Int.toNat_natCast]
theorem search_cases {v : Sg} (hI : sInv v) : (sSearch v 0 = -1000005 ∧ sSearch v 1 = 1 ∧ sSearch v 2 = -1000005) ∨ (0 ≤ sSearch v 0 ∧ sSearch v 0 < 8 ∧ sSearch v 1 = 4 ∧ 0 < sCi v 8) := by
  by_cases h : sH v 0 8 = true
  · have hf := sFd_lt v
    refine .inr ⟨?_, ?_, ?_, search_ci hI h⟩
    · unfold sSearch
      rw [if_neg (by rw [h]; decide), if_pos rfl]
      omega
    · unfold sSearch
      rw [if_neg (by rw [h]; decide), if_pos rfl]
      omega
    · unfold sSearch
      rw [if_neg (by rw [h]; decide), if_neg (by decide), if_pos rfl]
  · have h2 : sH v 0 8 = false := by simpa using h
    refine .inl ⟨?_, ?_, ?_⟩
    · unfold sSearch
      rw [if_pos h2, if_neg (by decide)]
    · unfold sSearch
      rw [if_pos h2, if_pos rfl]
    · unfold sSearch
      rw [if_pos h2, if_neg (by decide)]
theorem sTell_i (v : Sg) : sTell v 0 = v 0 ∧ sTell v 1 = sRes v ∧ sTell v 2 = v 13 ∧ sTell v 3 = v 14 ∧ sTell v 4 = v 15 ∧ sTell v 5 = v 16 ∧ sTell v 6 = ((sOm v (sDrw v) true 8 : Nat) : Int) ∧ sTell v 7 = ((sSp v (sDrw v) true 192 : Nat) : Int) ∧ sTell v 8 = ((sCi v 8 : Nat) : Int) ∧ sTell v 9 = v 20 := ⟨rfl, rfl, rfl, rfl, rfl, rfl, rfl, rfl, rfl, rfl⟩
theorem sSp_sg0 : sSp sg0 (sDrw sg0) true 192 = 0 := by
  have e : sDrw sg0 = 0 := by decide +kernel
  rw [e]
  have : ∀ p, sSp sg0 0 true p = 0 := by
    intro p
    induction p with
    | zero => rfl
    | succ p ih =>
      rw [sSp, ih, if_neg]
      unfold sRs
      rw [Nat.zero_testBit, if_pos rfl]
      decide
  exact this 192
