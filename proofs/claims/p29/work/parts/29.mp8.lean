/-! ===== the twin: changes that are recorded ===== -/
def mL : List Nat := [111, 112, 120, 121, 122, 123, 124, 125, 126]
/-- v was recorded, and now the row is w -/
def mOp (n : Nat) (v w : Sg) (M M' : Mem) : Prop := ∃ K : Mem, mRec n v M K ∧ fr mL K M' ∧ M'.1 111 = w
def oPost (n : Nat) (v : Sg) (M : Mem) (good : Prop) (ans err : Int) (w : Sg) (r : Option AV) (M' : Mem) : Prop := (good → r = some (aI ans) ∧ mOp n v w M M') ∧ (¬ good → r = some (aI err) ∧ M' = M)
theorem oPost.y {n : Nat} {v : Sg} {M : Mem} {good : Prop} {ans err : Int} {w w2 : Sg} {r : Option AV} {K M' : Mem} (g : good) (hr : r = some (aI ans)) (h1 : mRec n v M K) (h2 : fr mL K M') (h3 : M'.1 111 = w2) (h4 : w2 = w) : oPost n v M good ans err w r M' := ⟨fun _ => ⟨hr, K, h1, h2, h3.trans h4⟩, fun q => absurd g q⟩
theorem oPost.n {n : Nat} {v : Sg} {M : Mem} {good : Prop} {ans err : Int} {w : Sg} {r : Option AV} (g : ¬ good) (hr : r = some (aI err)) : oPost n v M good ans err w r M := ⟨fun q => absurd q g, fun _ => ⟨hr, rfl⟩⟩
def tLo : Nat → Int
  | 0 => 20
  | 3 => 100
  | 4 => 1000
  | 6 => 10
  | 7 => 1
  | _ => 0
def tHi : Nat → Int
  | 0 => 200
  | 1 => 100
  | 2 => 100
  | 3 => 2000
  | 4 => 20000
  | 5 => 20000
  | 6 => 500
  | 7 => 8
  | _ => 32
theorem tLo_R (k : Nat) : R32 (tLo k) := by unfold tLo; split <;> decide
theorem tHi_R (k : Nat) : R32 (tHi k) := by unfold tHi; split <;> decide
def gLay (a b c d : Int) : Prop := (0 ≤ a ∧ a ≤ 7) ∧ (0 ≤ b ∧ b ≤ 1) ∧ (1 ≤ c ∧ c ≤ 40) ∧ (0 ≤ d ∧ d ≤ 200)
def eSt (a : Int) (e : Int) : Int := if 0 ≤ a ∧ a ≤ 7 then e else -1000001
def sLay (v : Sg) (s : Nat) (b c d : Int) : Sg := fun i => if 64 + 24 * s ≤ i ∧ i < 64 + 24 * s + 24 then 0 else if i = 24 + 5 * s then b else if i = 24 + 5 * s + 1 then c else if i = 24 + 5 * s + 2 then d else v i
def gSet (a b : Int) : Prop := (0 ≤ a ∧ a ≤ 8) ∧ (tLo a.toNat ≤ b ∧ b ≤ tHi a.toNat)
def eSet (a : Int) : Int := if 0 ≤ a ∧ a ≤ 8 then -1000002 else -1000001
abbrev gSK (a b : Int) : Prop := (0 ≤ a ∧ a ≤ 7) ∧ (0 ≤ b ∧ b ≤ 23)
def sCip (v : Sg) (s k : Nat) (on : Int) : Sg := sup v (256 + s) ((wth (v (256 + s)).toNat k (decide (on ≠ 0)) : Nat) : Int)
def gCip (v : Sg) (a b c : Int) : Prop := gSK a b ∧ ¬ (c ≠ 0 ∧ bt (v (256 + a.toNat)) b.toNat = false ∧ sCi v 8 = 6)
def eSK (a b e : Int) : Int := if gSK a b then e else -1000001
def sDra (v : Sg) (s : Nat) (on : Int) : Sg := sup v (24 + 5 * s + 3) (bP (on ≠ 0))
def sPre (v : Sg) (m k : Nat) (on : Int) : Sg := sup v (11 + m) ((wth (v (11 + m)).toNat k (decide (on ≠ 0)) : Nat) : Int)
def sCou (v : Sg) (a b : Int) : Sg := sup v 10 (bP (a ≠ 0) + 2 * bP (b ≠ 0))
def gTun (v : Sg) (a b : Int) : Prop := gSK a b ∧ (sRs v (sDrw v) true a.toNat b.toNat = 0 ∧ (-200 ≤ -sBend v (sDrw v) true a.toNat ∧ -sBend v (sDrw v) true a.toNat ≤ 200))
def sTun (v : Sg) (s k : Nat) : Sg := sup v (64 + 24 * s + k) (-sBend v (sDrw v) true s)
theorem lay_st (v : Sg) (s k : Nat) : sup (fun i => if 64 + 24 * s ≤ i ∧ i < 64 + 24 * s + k then 0 else v i) (64 + 24 * s + k) 0 = fun i => if 64 + 24 * s ≤ i ∧ i < 64 + 24 * s + (k + 1) then 0 else v i := by
  funext i
  unfold sup
  dsimp only
  by_cases h1 : i = 64 + 24 * s + k
  · rw [if_pos h1, if_pos (by omega)]
  · rw [if_neg h1]
    by_cases h2 : 64 + 24 * s ≤ i ∧ i < 64 + 24 * s + k
    · rw [if_pos h2, if_pos (by omega)]
    · rw [if_neg h2, if_neg (by omega)]
theorem lay_en (v : Sg) {s : Nat} (hs : s < 8) (b c d : Int) : sup (sup (sup (fun i => if 64 + 24 * s ≤ i ∧ i < 64 + 24 * s + 24 then 0 else v i) (24 + 5 * s) b) (24 + 5 * s + 2) d) (24 + 5 * s + 1) c = sLay v s b c d := by
  funext i
  unfold sup sLay
  dsimp only
  by_cases h1 : 64 + 24 * s ≤ i ∧ i < 64 + 24 * s + 24
  · rw [if_neg (by omega), if_neg (by omega), if_neg (by omega)]
    rw [if_pos h1, if_pos h1]
  · by_cases h2 : i = 24 + 5 * s
    · rw [if_neg (by omega), if_neg (by omega), if_pos h2, if_neg h1, if_pos h2]
    · by_cases h3 : i = 24 + 5 * s + 1
      · rw [if_pos h3, if_neg h1, if_neg h2, if_pos h3]
      · by_cases h4 : i = 24 + 5 * s + 2
        · rw [if_neg h3, if_pos h4, if_neg h1, if_neg h2, if_neg h3, if_pos h4]
        · rw [if_neg h3, if_neg h4, if_neg h2, if_neg h1, if_neg h1, if_neg h2, if_neg h3, if_neg h4]
theorem dra_inv {v : Sg} (hI : sInv v) {s : Nat} (hs : s < 8) (on : Int) : sInv (sDra v s on) := by
  have hb := bP_01 (on ≠ 0)
  obtain ⟨h1, h2, h3, h4, h5, h6⟩ := hI
  have e : ∀ i, i ≠ 24 + 5 * s + 3 → sDra v s on i = v i := fun i hi => sup_ne _ _ hi
  refine ⟨fun t ht => ?_, ?_, fun p hp => by rw [e _ (by omega)]; exact h3 p hp, ?_, ?_, ?_⟩
  · have := h1 t ht
    rw [e _ (by omega), e (24 + 5 * t + 1) (by omega), e (24 + 5 * t + 2) (by omega), e (256 + t) (by omega)]
    refine ⟨this.1, this.2.1, this.2.2.1, ?_, this.2.2.2.2⟩
    by_cases ht2 : t = s
    · subst ht2
      rw [sDra, sup_eq]
      omega
    · rw [e _ (by omega)]
      exact this.2.2.2.1
  · have : ∀ t, t ≤ 8 → sCi (sDra v s on) t = sCi v t := by
      intro t
      induction t with
      | zero => intro _; rfl
      | succ t ih => intro ht; rw [sCi, sCi, ih (by omega), e _ (by omega)]
    rw [this 8 (Nat.le_refl _)]
    exact h2
  · rw [e 1 (by omega), e 2 (by omega), e 3 (by omega), e 4 (by omega), e 5 (by omega), e 6 (by omega), e 7 (by omega), e 8 (by omega), e 9 (by omega)]
    exact h4
  · rw [e 10 (by omega), e 11 (by omega), e 12 (by omega)]
    exact h5
  · rw [e 0 (by omega), e 17 (by omega), e 20 (by omega), e 21 (by omega), e 22 (by omega), e 23 (by omega)]
    exact h6
theorem pre_b {v : Sg} (hI : sInv v) {s : Nat} (hs : s < 2) : 0 ≤ v (11 + s) ∧ v (11 + s) < 16777216 := by
  have := iv_key hI
  rcases (show s = 0 ∨ s = 1 by omega) with rfl | rfl
  · exact this.2.1
  · exact this.2.2
