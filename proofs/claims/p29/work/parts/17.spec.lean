/-! ===== what the twin's row of 264 numbers says ===== -/
abbrev Sg : Type := Nat → Int
def sMan (v : Sg) (s : Nat) : Nat := (v (24 + 5 * s)).toNat
def sNeed (v : Sg) (s k : Nat) : Int := v (24 + 5 * s + 1) + (23 - (k : Int)) / 4
def sRes (v : Sg) : Int := if v 4 ≤ v 0 then v 1 else v 1 * v 0 / v 4
def sFst (v : Sg) (pr : Bool) : Nat := if pr then (v 11).toNat else 0
def sSnd (v : Sg) (pr : Bool) : Nat := if pr then (v 12).toNat else 0
def sAct0 (v : Sg) (pr : Bool) : Nat := if 2 ≤ v 10 then kOct (sFst v pr) else sFst v pr
def sAct1 (v : Sg) (pr : Bool) : Nat := if v 10 % 2 = 1 then sSnd v pr ||| sAct0 v pr else sSnd v pr
def sAct (v : Sg) (pr : Bool) (m : Nat) : Nat := if m = 0 then sAct0 v pr else sAct1 v pr
def sOpn (v : Sg) (st : Nat) (pr : Bool) (s : Nat) : Nat := if st.testBit s = true then sAct v pr (sMan v s) ||| (v (256 + s)).toNat else 0
def sNa (v : Sg) (st : Nat) (pr : Bool) (s k : Nat) : Int := if (sOpn v st pr s).testBit k = true then sNeed v s k else 0
def sNs (v : Sg) (st : Nat) (pr : Bool) (m : Nat) : Nat → Int
  | 0 => 0
  | p + 1 => sNs v st pr m p + (if sMan v (p / 24) = m then sNa v st pr (p / 24) (p % 24) else 0)
def sPr (v : Sg) (st : Nat) (pr : Bool) (m : Nat) : Int := max 0 (sRes v - sNs v st pr m 192 * v (2 + m) / 100)
def sAk (v : Sg) (st : Nat) (pr : Bool) (s k : Nat) : Int := if (sOpn v st pr s).testBit k = true then sNeed v s k * sPr v st pr (sMan v s) / v 1 else 0
def sAs (v : Sg) (st : Nat) (pr : Bool) (p : Nat) : Int := sAk v st pr (p / 24) (p % 24)
def sLf (v : Sg) (st : Nat) (pr : Bool) : Nat → Int
  | 0 => v 0
  | p + 1 => sLf v st pr p - min (sAs v st pr p) (sLf v st pr p)
def sGt (v : Sg) (st : Nat) (pr : Bool) (p : Nat) : Int := min (sAs v st pr p) (sLf v st pr p)
def sRs (v : Sg) (st : Nat) (pr : Bool) (s k : Nat) : Int :=
  if st.testBit s = false then 1 else if (sOpn v st pr s).testBit k = false then 2 else if sPr v st pr (sMan v s) < v (24 + 5 * s + 2) then 3 else if sGt v st pr (24 * s + k) < sAs v st pr (24 * s + k) then 4 else if sAs v st pr (24 * s + k) = 0 then 5 else 0
def sBend (v : Sg) (st : Nat) (pr : Bool) (s : Nat) : Int := (sPr v st pr (sMan v s) - v 1) * v 9 / 16
def sPitch (v : Sg) (st : Nat) (pr : Bool) (s k : Nat) : Int := v (64 + 24 * s + k) + sBend v st pr s
def sDr (v : Sg) : Nat → Nat
  | 0 => 0
  | s + 1 => sDr v s + (v (24 + 5 * s + 3)).toNat * 2 ^ s
def sDrw (v : Sg) : Nat := sDr v 8
def sCi (v : Sg) : Nat → Nat
  | 0 => 0
  | s + 1 => sCi v s + pc (v (256 + s)).toNat
/-- the ranges that a state keeps to -/
def sInv (v : Sg) : Prop :=
  (∀ s, s < 8 → (0 ≤ v (24 + 5 * s) ∧ v (24 + 5 * s) ≤ 1) ∧ (1 ≤ v (24 + 5 * s + 1) ∧ v (24 + 5 * s + 1) ≤ 40) ∧ (0 ≤ v (24 + 5 * s + 2) ∧ v (24 + 5 * s + 2) ≤ 200) ∧ (0 ≤ v (24 + 5 * s + 3) ∧ v (24 + 5 * s + 3) ≤ 1) ∧ (0 ≤ v (256 + s) ∧ v (256 + s) < 16777216)) ∧
  (sCi v 8 ≤ 6) ∧ (∀ p, p < 192 → -200 ≤ v (64 + p) ∧ v (64 + p) ≤ 200) ∧
  ((20 ≤ v 1 ∧ v 1 ≤ 200) ∧ (0 ≤ v 2 ∧ v 2 ≤ 100) ∧ (0 ≤ v 3 ∧ v 3 ≤ 100) ∧ (100 ≤ v 4 ∧ v 4 ≤ 2000) ∧ (1000 ≤ v 5 ∧ v 5 ≤ 20000) ∧ (0 ≤ v 6 ∧ v 6 ≤ 20000) ∧ (10 ≤ v 7 ∧ v 7 ≤ 500) ∧ (1 ≤ v 8 ∧ v 8 ≤ 8) ∧ (0 ≤ v 9 ∧ v 9 ≤ 32)) ∧
  ((0 ≤ v 10 ∧ v 10 ≤ 3) ∧ (0 ≤ v 11 ∧ v 11 < 16777216) ∧ (0 ≤ v 12 ∧ v 12 < 16777216)) ∧
  ((0 ≤ v 0 ∧ v 0 ≤ 20000) ∧ (0 ≤ v 17 ∧ v 17 ≤ 1) ∧ (0 ≤ v 22 ∧ v 22 ≤ 8) ∧ (0 ≤ v 20 ∧ v 20 ≤ 500) ∧ (0 < v 22 → 1 ≤ v 21 ∧ v 21 ≤ 8 ∧ 0 ≤ v 23 ∧ v 23 ≤ 500 ∧ v 22 * (v 23 / v 21) ≤ v 20))
theorem iv_st {v : Sg} (h : sInv v) {s : Nat} (hs : s < 8) : (0 ≤ v (24 + 5 * s) ∧ v (24 + 5 * s) ≤ 1) ∧ (1 ≤ v (24 + 5 * s + 1) ∧ v (24 + 5 * s + 1) ≤ 40) ∧ (0 ≤ v (24 + 5 * s + 2) ∧ v (24 + 5 * s + 2) ≤ 200) ∧ (0 ≤ v (24 + 5 * s + 3) ∧ v (24 + 5 * s + 3) ≤ 1) ∧ (0 ≤ v (256 + s) ∧ v (256 + s) < 16777216) := h.1 s hs
theorem iv_set {v : Sg} (h : sInv v) : (20 ≤ v 1 ∧ v 1 ≤ 200) ∧ (0 ≤ v 2 ∧ v 2 ≤ 100) ∧ (0 ≤ v 3 ∧ v 3 ≤ 100) ∧ (100 ≤ v 4 ∧ v 4 ≤ 2000) ∧ (1000 ≤ v 5 ∧ v 5 ≤ 20000) ∧ (0 ≤ v 6 ∧ v 6 ≤ 20000) ∧ (10 ≤ v 7 ∧ v 7 ≤ 500) ∧ (1 ≤ v 8 ∧ v 8 ≤ 8) ∧ (0 ≤ v 9 ∧ v 9 ≤ 32) := h.2.2.2.1
theorem iv_key {v : Sg} (h : sInv v) : (0 ≤ v 10 ∧ v 10 ≤ 3) ∧ (0 ≤ v 11 ∧ v 11 < 16777216) ∧ (0 ≤ v 12 ∧ v 12 < 16777216) := h.2.2.2.2.1
theorem iv_bel {v : Sg} (h : sInv v) : (0 ≤ v 0 ∧ v 0 ≤ 20000) ∧ (0 ≤ v 17 ∧ v 17 ≤ 1) ∧ (0 ≤ v 22 ∧ v 22 ≤ 8) ∧ (0 ≤ v 20 ∧ v 20 ≤ 500) ∧ (0 < v 22 → 1 ≤ v 21 ∧ v 21 ≤ 8 ∧ 0 ≤ v 23 ∧ v 23 ≤ 500 ∧ v 22 * (v 23 / v 21) ≤ v 20) := h.2.2.2.2.2
theorem iv_off {v : Sg} (h : sInv v) {p : Nat} (hp : p < 192) : -200 ≤ v (64 + p) ∧ v (64 + p) ≤ 200 := h.2.2.1 p hp
theorem iv_ci {v : Sg} (h : sInv v) : sCi v 8 ≤ 6 := h.2.1
theorem iv_los {v : Sg} (h : sInv v) {m : Nat} (hm : m < 2) : 0 ≤ v (2 + m) ∧ v (2 + m) ≤ 100 := by
  have := iv_set h
  rcases (show m = 0 ∨ m = 1 by omega) with rfl | rfl
  · exact this.2.1
  · exact this.2.2.1
theorem sMan_lt {v : Sg} (h : sInv v) {s : Nat} (hs : s < 8) : sMan v s < 2 ∧ v (24 + 5 * s) = ((sMan v s : Nat) : Int) := by
  have := (iv_st h hs).1
  unfold sMan
  omega
theorem sNeed_b {v : Sg} (h : sInv v) {s k : Nat} (hs : s < 8) (hk : k < 24) : 1 ≤ sNeed v s k ∧ sNeed v s k ≤ 45 := by
  have := (iv_st h hs).2.1
  unfold sNeed
  omega
theorem sFst_lt {v : Sg} (h : sInv v) (pr : Bool) : sFst v pr < 16777216 := by
  have := (iv_key h).2.1
  unfold sFst
  split <;> omega
theorem sSnd_lt {v : Sg} (h : sInv v) (pr : Bool) : sSnd v pr < 16777216 := by
  have := (iv_key h).2.2
  unfold sSnd
  split <;> omega
theorem sAct0_lt {v : Sg} (h : sInv v) (pr : Bool) : sAct0 v pr < 16777216 := by
  unfold sAct0
  split
  · exact kOct_lt _
  · exact sFst_lt h pr
theorem sAct1_lt {v : Sg} (h : sInv v) (pr : Bool) : sAct1 v pr < 16777216 := by
  unfold sAct1
  split
  · exact Nat.or_lt_two_pow (n := 24) (sSnd_lt h pr) (sAct0_lt h pr)
  · exact sSnd_lt h pr
theorem sAct_lt {v : Sg} (h : sInv v) (pr : Bool) (m : Nat) : sAct v pr m < 16777216 := by
  unfold sAct
  split
  · exact sAct0_lt h pr
  · exact sAct1_lt h pr
theorem sOpn_lt {v : Sg} (h : sInv v) (st : Nat) (pr : Bool) {s : Nat} (hs : s < 8) : sOpn v st pr s < 16777216 := by
  unfold sOpn
  split
  · have := (iv_st h hs).2.2.2.2
    exact Nat.or_lt_two_pow (n := 24) (sAct_lt h pr _) (show (v (256 + s)).toNat < 2 ^ 24 by omega)
  · decide
theorem p_div {s k : Nat} (hk : k < 24) : (24 * s + k) / 24 = s ∧ (24 * s + k) % 24 = k := by omega
theorem sNs_step (v : Sg) (st : Nat) (pr : Bool) (m s : Nat) {k : Nat} (hk : k < 24) : sNs v st pr m (24 * s + (k + 1)) = sNs v st pr m (24 * s + k) + (if sMan v s = m then sNa v st pr s k else 0) := by
  rw [← Nat.add_assoc, sNs, (p_div hk).1, (p_div hk).2]
theorem sNa_b {v : Sg} (h : sInv v) (st : Nat) (pr : Bool) {s k : Nat} (hs : s < 8) (hk : k < 24) : 0 ≤ sNa v st pr s k ∧ sNa v st pr s k ≤ 45 := by
  have := sNeed_b h hs hk
  unfold sNa
  split <;> omega
theorem sNs_b {v : Sg} (h : sInv v) (st : Nat) (pr : Bool) (m : Nat) : ∀ p, p ≤ 192 → 0 ≤ sNs v st pr m p ∧ sNs v st pr m p ≤ 45 * p
  | 0, _ => ⟨Int.le_refl _, Int.le_refl _⟩
  | p + 1, hp => by
    have h1 := sNs_b h st pr m p (by omega)
    have h2 := sNa_b h st pr (s := p / 24) (k := p % 24) (by omega) (by omega)
    rw [sNs]
    split <;> omega
theorem sRes_b {v : Sg} (h : sInv v) : 0 ≤ sRes v ∧ sRes v ≤ v 1 := by
  have h1 := iv_set h
  have h2 := iv_bel h
  unfold sRes
  split
  · omega
  · refine ⟨Int.ediv_nonneg (Int.mul_nonneg (by omega) (by omega)) (by omega), ?_⟩
    have h3 : v 1 * v 0 ≤ v 1 * v 4 := Int.mul_le_mul_of_nonneg_left (by omega) (by omega)
    have h4 := Int.ediv_le_ediv (show 0 < v 4 by omega) h3
    rwa [Int.mul_ediv_cancel _ (by omega)] at h4
theorem sPr_b {v : Sg} (h : sInv v) (st : Nat) (pr : Bool) {m : Nat} (hm : m < 2) : 0 ≤ sPr v st pr m ∧ sPr v st pr m ≤ v 1 := by
  have h1 := sRes_b h
  have h2 := sNs_b h st pr m 192 (Nat.le_refl _)
  have h3 := iv_los h hm
  have h4 := Int.ediv_nonneg (Int.mul_nonneg h2.1 h3.1) (show (0 : Int) ≤ 100 by decide)
  have h5 := iv_set h
  unfold sPr
  omega
theorem sAk_b {v : Sg} (h : sInv v) (st : Nat) (pr : Bool) {s k : Nat} (hs : s < 8) (hk : k < 24) : 0 ≤ sAk v st pr s k ∧ sAk v st pr s k ≤ 45 := by
  have h1 := sNeed_b h hs hk
  have h2 := sPr_b h st pr (sMan_lt h hs).1
  have h3 := iv_set h
  unfold sAk
  split
  · refine ⟨Int.ediv_nonneg (Int.mul_nonneg (by omega) (by omega)) (by omega), ?_⟩
    have h5 : sNeed v s k * sPr v st pr (sMan v s) ≤ sNeed v s k * v 1 := Int.mul_le_mul_of_nonneg_left (by omega) (by omega)
    have h4 := Int.ediv_le_ediv (show 0 < v 1 by omega) h5
    rw [Int.mul_ediv_cancel _ (by omega)] at h4
    omega
  · omega
theorem sAs_at (v : Sg) (st : Nat) (pr : Bool) (s : Nat) {k : Nat} (hk : k < 24) : sAs v st pr (24 * s + k) = sAk v st pr s k := by
  rw [sAs, (p_div hk).1, (p_div hk).2]
theorem sAs_b {v : Sg} (h : sInv v) (st : Nat) (pr : Bool) {p : Nat} (hp : p < 192) : 0 ≤ sAs v st pr p ∧ sAs v st pr p ≤ 45 := sAk_b h st pr (by omega) (by omega)
theorem sLf_b {v : Sg} (h : sInv v) (st : Nat) (pr : Bool) : ∀ p, p ≤ 192 → 0 ≤ sLf v st pr p ∧ sLf v st pr p ≤ v 0
  | 0, _ => ⟨(iv_bel h).1.1, Int.le_refl _⟩
  | p + 1, hp => by
    have h1 := sLf_b h st pr p (by omega)
    have h2 := sAs_b h st pr (p := p) (by omega)
    rw [sLf]
    omega
theorem sLf_step (v : Sg) (st : Nat) (pr : Bool) (s : Nat) {k : Nat} (hk : k < 24) : sLf v st pr (24 * s + (k + 1)) = sLf v st pr (24 * s + k) - min (sAk v st pr s k) (sLf v st pr (24 * s + k)) := by
  rw [← Nat.add_assoc, sLf, sAs_at _ _ _ _ hk]
theorem sDr_b {v : Sg} (h : sInv v) : ∀ s, s ≤ 8 → sDr v s < 2 ^ s
  | 0, _ => (by decide : (0 : Nat) < 1)
  | s + 1, hs => by
    have h1 := sDr_b h s (by omega)
    have h2 := (iv_st h (show s < 8 by omega)).2.2.2.1
    rw [sDr, Nat.pow_succ]
    rcases (show (v (24 + 5 * s + 3)).toNat = 0 ∨ (v (24 + 5 * s + 3)).toNat = 1 by omega) with e | e <;> rw [e] <;> omega
theorem sDrw_lt {v : Sg} (h : sInv v) : sDrw v < 256 := sDr_b h 8 (Nat.le_refl _)
theorem sDr_bit {v : Sg} (h : sInv v) : ∀ s, s ≤ 8 → ∀ j, j < s → ((sDr v s).testBit j = true ↔ v (24 + 5 * j + 3) = 1)
  | 0, _, j, hj => absurd hj (by omega)
  | s + 1, hs, j, hj => by
    have h2 := (iv_st h (show s < 8 by omega)).2.2.2.1
    have h3 := sDr_b h s (by omega)
    rw [sDr, Nat.add_comm, Nat.mul_comm, Nat.testBit_two_pow_mul_add _ h3]
    by_cases hjs : j < s
    · rw [if_pos hjs]
      exact sDr_bit h s (by omega) j hjs
    · rw [if_neg hjs]
      have : j = s := by omega
      subst this
      rw [Nat.sub_self]
      rcases (show v (24 + 5 * j + 3) = 0 ∨ v (24 + 5 * j + 3) = 1 by omega) with e | e <;> rw [e] <;> decide
/-- what changed: cells outside L are as they were, and no reference moved -/
def fr (L : List Nat) (M0 M : Mem) : Prop := M.2 = M0.2 ∧ ∀ i, i ∉ L → M.1 i = M0.1 i
theorem fr_rf {L : List Nat} {M : Mem} : fr L M M := ⟨rfl, fun _ _ => rfl⟩
theorem fr_up {L : List Nat} {M0 M : Mem} (h : fr L M0 M) {i : Nat} (hi : i ∈ L) (k : Nat) (z : Int) : fr L M0 (vup M.1 i k z, M.2) := by
  refine ⟨h.1, fun j hj => ?_⟩
  rw [← h.2 j hj]
  funext b
  exact vup_nid _ _ _ (fun e => hj (e ▸ hi))
theorem fr_tr {L L2 : List Nat} {M0 M M2 : Mem} (h : fr L M0 M) (h2 : fr L2 M M2) (hs : ∀ i, i ∈ L2 → i ∈ L) : fr L M0 M2 :=
  ⟨h2.1.trans h.1, fun i hi => (h2.2 i (fun e => hi (hs i e))).trans (h.2 i hi)⟩
theorem fr_layX {L : List Nat} {M0 M : Mem} (h : fr L M0 M) (hl : LayX M0.2) : LayX M.2 := by rw [h.1]; exact hl
theorem nu_bitN {n k : Nat} (h : n ≤ 2147483647) (hk : k < 32) : vand (vshr (n : Int) (k : Int)) 1 = bP (n.testBit k = true) := by
  rw [nu_bit (by omega) (by omega) hk]
  exact bP_congr (by rw [bt, Int.toNat_natCast])
theorem vup_in {f : Nat → Nat → Int} {i k b : Nat} {z : Int} : vup f i k z i b = if b = k then z else f i b := by
  unfold vup
  by_cases h : b = k <;> simp [h]
theorem dv_n (a b : Nat) : ((a : Nat) : Int).tdiv ((b : Nat) : Int) = ((a / b : Nat) : Int) := by
  rw [nu_tdiv (by omega)]
  rfl
theorem md_n (a b : Nat) : ((a : Nat) : Int).tmod ((b : Nat) : Int) = ((a % b : Nat) : Int) := by
  rw [Int.tmod_eq_emod_of_nonneg (by omega)]
  rfl
def sSp (v : Sg) (st : Nat) (pr : Bool) : Nat → Nat
  | 0 => 0
  | p + 1 => sSp v st pr p + (if sRs v st pr (p / 24) (p % 24) = 0 then 1 else 0)
def sOm (v : Sg) (st : Nat) (pr : Bool) : Nat → Nat
  | 0 => 0
  | s + 1 => sOm v st pr s + pc (sOpn v st pr s)
def sLoF (z : Nat) : Nat → Nat → Int
  | 0, _ => -1000005
  | n + 1, k => if z.testBit k = true then (k : Int) else sLoF z n (k + 1)
def sLow (z : Nat) : Int := sLoF z 24 0
def sCh (v : Sg) (m w : Nat) : Int := if w = 0 then sPr v (sDrw v) true m else if w = 1 then sNs v (sDrw v) true m 192 else ((sAct v true m : Nat) : Int)
def sPi (v : Sg) (s k w : Nat) : Int :=
  if w = 0 then sNeed v s k else if w = 1 then v (64 + (24 * s + k)) else if (sOpn v (sDrw v) true s).testBit k = false then -1000005 else if w = 2 then sAs v (sDrw v) true (24 * s + k) else if w = 3 then sGt v (sDrw v) true (24 * s + k) else sPitch v (sDrw v) true s k
def sTell (v : Sg) (w : Nat) : Int :=
  if w = 0 then v 0 else if w = 1 then sRes v else if w < 6 then v (11 + w) else if w = 6 then ((sOm v (sDrw v) true 8 : Nat) : Int) else if w = 7 then ((sSp v (sDrw v) true 192 : Nat) : Int) else if w = 8 then ((sCi v 8 : Nat) : Int) else v 20
def sMi (v : Sg) (st : Nat) : Nat → Int × Int × Bool
  | 0 => (0, 0, false)
  | p + 1 => if sRs v st true (p / 24) (p % 24) = 0 then
      (if (sMi v st p).2.2 = false ∨ sPitch v st true (p / 24) (p % 24) < (sMi v st p).1 then sPitch v st true (p / 24) (p % 24) else (sMi v st p).1,
       if (sMi v st p).2.2 = false ∨ (sMi v st p).2.1 < sPitch v st true (p / 24) (p % 24) then sPitch v st true (p / 24) (p % 24) else (sMi v st p).2.1, true) else sMi v st p
def sMist (v : Sg) : Int := if (sMi v (sDrw v) 192).2.2 = true then (sMi v (sDrw v) 192).2.1 - (sMi v (sDrw v) 192).1 else -1000005
def sRow (a n : Nat) : Nat := (2 ^ n - 1) * 2 ^ a
def sH (v : Sg) (a n : Nat) : Bool := decide (0 < sSp v (sRow a n) false 192)
def sFa (v : Sg) : Nat := if sH v 0 4 = true then 0 else 4
def sFb (v : Sg) : Nat := if sH v (sFa v) 2 = true then sFa v else sFa v + 2
def sFd (v : Sg) : Nat := if sH v (sFb v) 1 = true then sFb v else sFb v + 1
def sSearch (v : Sg) (w : Nat) : Int := if sH v 0 8 = false then (if w = 1 then 1 else -1000005) else if w = 0 then ((sFd v : Nat) : Int) else if w = 1 then 4 else sLow (v (256 + sFd v)).toNat
theorem sRs_b (v : Sg) (st : Nat) (pr : Bool) (s k : Nat) : 0 ≤ sRs v st pr s k ∧ sRs v st pr s k ≤ 5 := by
  unfold sRs
  split
  · decide
  · split
    · decide
    · split
      · decide
      · split
        · decide
        · split <;> decide
theorem sSp_le (v : Sg) (st : Nat) (pr : Bool) : ∀ p, sSp v st pr p ≤ p
  | 0 => Nat.le_refl _
  | p + 1 => by
    have := sSp_le v st pr p
    rw [sSp]
    split <;> omega
theorem sBend_b {v : Sg} (h : sInv v) (st : Nat) (pr : Bool) {s : Nat} (hs : s < 8) : -400 ≤ sBend v st pr s ∧ sBend v st pr s ≤ 0 := by
  have h1 := sPr_b h st pr (sMan_lt h hs).1
  have h2 := iv_set h
  unfold sBend
  have h3 : (sPr v st pr (sMan v s) - v 1) * v 9 ≤ 0 := Int.mul_nonpos_of_nonpos_of_nonneg (by omega) (by omega)
  have h4 : (-200) * 32 ≤ (sPr v st pr (sMan v s) - v 1) * v 9 := by
    have a1 : (sPr v st pr (sMan v s) - v 1) * v 9 ≥ (-200) * v 9 := Int.mul_le_mul_of_nonneg_right (by omega) (by omega)
    omega
  omega
theorem sPitch_b {v : Sg} (h : sInv v) (st : Nat) (pr : Bool) {s k : Nat} (hs : s < 8) (hk : k < 24) : -600 ≤ sPitch v st pr s k ∧ sPitch v st pr s k ≤ 200 := by
  have h1 := sBend_b h st pr hs
  have h2 := iv_off h (p := 24 * s + k) (by omega)
  rw [← Nat.add_assoc] at h2
  unfold sPitch
  omega
theorem sMi_b {v : Sg} (h : sInv v) (st : Nat) : ∀ p, p ≤ 192 → (-600 ≤ (sMi v st p).1 ∧ (sMi v st p).1 ≤ 200) ∧ (-600 ≤ (sMi v st p).2.1 ∧ (sMi v st p).2.1 ≤ 200)
  | 0, _ => (by decide : (-600 ≤ (0 : Int) ∧ (0 : Int) ≤ 200) ∧ (-600 ≤ (0 : Int) ∧ (0 : Int) ≤ 200))
  | p + 1, hp => by
    have h1 := sMi_b h st p (by omega)
    have h2 := sPitch_b h st true (s := p / 24) (k := p % 24) (by omega) (by omega)
    rw [sMi]
    split
    · dsimp only
      refine ⟨?_, ?_⟩ <;> split <;> omega
    · exact h1
