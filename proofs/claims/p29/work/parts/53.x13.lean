/-! ===== the class: what is recorded ===== -/
def xh (r : Nat) (h : Nat → Nat) : Nat → Nat := if r = 5 then (fun k => if k = 4 then h 0 else h (k + 1)) else h
theorem xh_p {P : Nat → Prop} {r : Nat} {h : Nat → Nat} (hB : ∀ k, k < 5 → P (h k)) : ∀ k, k < 5 → P (xh r h k) := by
  intro k hk
  unfold xh
  split
  · dsimp only
    split
    · exact hB 0 (by decide)
    · exact hB (k + 1) (by omega)
  · exact hB k hk
/-- the row v stands in the newest state of the history -/
def xRec (r : Nat) (h : Nat → Nat) (v : Sg) (M M' : Mem) : Prop := (∀ k, k < 5 → M'.2 21 k = some (xh r h k)) ∧ (∀ i, i ≠ 21 → M'.2 i = M.2 i) ∧ M'.1 0 8 = ((min r 4 + 1 : Nat) : Int) ∧ (∀ k, k ≠ 8 → M'.1 0 k = M.1 0 k) ∧ XS (xh r h (min r 4)) v M'.1 ∧ ∀ i, i ≠ 0 → (i < xh r h (min r 4) ∨ xh r h (min r 4) + 10 ≤ i) → M'.1 i = M.1 i
theorem LayX.keep {r r2 : Nat → Nat → Option Nat} (h : LayX r) (e : ∀ i, i ≠ 21 → r2 i = r i) : LayX r2 := by
  obtain ⟨h1, h2, h3, h4, h5, h6⟩ := h
  refine ⟨fun b hb k hk => ?_, fun w hw k hk => ?_, ?_, ?_, ?_, ?_⟩
  · rw [e b (by unfold stB at hb; omega)]; exact h1 b hb k hk
  · rw [e w (by unfold wiB at hw; omega)]; exact h2 w hw k hk
  · rw [e 24 (by decide)]; exact h3
  · rw [e 0 (by decide)]; exact h4
  · rw [e 22 (by decide)]; exact h5
  · rw [e 22 (by decide)]; exact h6
theorem vupR {f : Nat → Nat → Option Nat} {i k b : Nat} {z : Option Nat} : vup f i k z i b = if b = k then z else f i b := by
  unfold vup
  by_cases h : b = k <;> simp [h]
theorem vupR_o {f : Nat → Nat → Option Nat} {i k a : Nat} {z : Option Nat} (h : a ≠ i) : vup f i k z a = f a := by
  funext b
  unfold vup
  rw [if_neg (fun q => h q.1)]
set_option maxRecDepth 100000 in
set_option maxHeartbeats 400000 in
theorem c_X3_remember {l : Launch} {G : vGG} {M : Mem} {v : Sg} (hLX : LayX M.2) (hX : XS 1 v M.1) (hI : sInv v) {r : Nat} {h : Nat → Nat} (hr : M.1 0 8 = (r : Int)) (hr5 : r ≤ 5) (hh : ∀ k, k < 5 → M.2 21 k = some (h k)) (hB : ∀ k, k < 5 → stB (h k) ∧ 40 ≤ h k ∧ h k ≤ 80) : Co l yX3_remember cX3_remember 3 none (rmo 3 60) G [aR (some 0)] M (fun r0 M' => r0 = none ∧ xRec r h v M M') := by
  refine Co.ofV (plainFor_of_name (by decide)) rfl rfl ?_
  intro x hxl hxR hlk hrt Q hQ
  show vO x Q G cX3_remember RX3 0 [some (aR (some 0)), none, none] [] M
  refine v_aload_n 0 dX3_remember_0 rfl rfl ?_
  refine o_getI (u := (r : Int)) lk_X3_279 rfl (rfl : SH 0 = _) hr dX3_remember_1 ?_
  refine v_iconst dX3_remember_4 ?_
  have jn54 : ∀ (K : Mem) (c1 c2 : Option AV), (∀ k, k < 5 → K.2 21 k = some (xh r h k)) → (∀ i, i ≠ 21 → K.2 i = M.2 i) → K.1 0 8 = ((min r 4 : Nat) : Int) → (∀ k, k ≠ 8 → K.1 0 k = M.1 0 k) → (∀ i, i ≠ 0 → K.1 i = M.1 i) → vO x Q G cX3_remember RX3 54 [some (aR (some 0)), c1, c2] [] K := by
    intro K c1 c2 k1 k2 k3 k4 k5
    have hLK := hLX.keep k2
    have hXK := hX.keep (fun i h1 h2 => k5 i (by omega))
    obtain ⟨m, hm⟩ : ∃ m, m = min r 4 := ⟨_, rfl⟩
    rw [← hm] at k3
    have hbm : stB (xh r h m) ∧ 40 ≤ xh r h m ∧ xh r h m ≤ 80 := xh_p (P := fun b => stB b ∧ 40 ≤ b ∧ b ≤ 80) hB m (by omega)
    refine v_aload_n 0 dX3_remember_54 rfl rfl ?_
    refine o_getI (u := (m : Int)) lk_X3_279 rfl (rfl : SH 0 = _) k3 dX3_remember_55 ?_
    refine v_if_lt 87 dX3_remember_58 (by decide) (by omega) (fun h58 => ?_) (fun h58 => ?_)
    · skip
      exact absurd h58 (by omega)
    · skip
      refine v_aload_n 0 dX3_remember_61 rfl rfl ?_
      refine v_getR lk_X3_10 rfl (rfl : SH 0 = _) (ow_0 hLK) dX3_remember_62 ?_
      refine v_aload_n 0 dX3_remember_65 rfl rfl ?_
      refine v_getR lk_X3_19 rfl (rfl : SH 0 = _) (ow_2 hLK) dX3_remember_66 ?_
      refine v_aload_n 0 dX3_remember_69 rfl rfl ?_
      refine o_getI (u := (m : Int)) lk_X3_279 rfl (rfl : SH 0 = _) k3 dX3_remember_70 ?_
      refine v_aald (rfl : SH 21 = _) (by omega) (k1 m (by omega)) dX3_remember_73 ?_
      refine oSm2 (c_X3_copyState stB_1 hbm.1 (by omega) hLK hXK hI) k0_X3_copyState ki_X3_copyState ml_X3_275 (vRo_of hxR (by decide) (by decide)) dX3_remember_74 (Nat.le_of_ble_eq_true rfl) (fun N hN => ?_)
      obtain ⟨hF, hX2⟩ := hN
      refine v_aload_n 0 dX3_remember_77 rfl rfl ?_
      refine v_dup dX3_remember_78 rfl ?_
      refine o_getI (u := (m : Int)) lk_X3_279 rfl (rfl : SH 0 = _) (by rw [hF.2 0 (by omega) (by omega)]; exact k3) dX3_remember_79 ?_
      refine v_iconst dX3_remember_82 ?_
      refine v_iadd dX3_remember_83 ?_
      refine v_putI lp_X3_279 rfl rfl (rfl : SH 0 = _) dX3_remember_84 ?_
      refine o_ret hQ hlk hrt dX3_remember_87 ?_
      refine ⟨rfl, fun k hk => ?_, fun i hi => ?_, ?_, fun k hk => ?_, ?_, fun i hi h1 => ?_⟩
      · rw [show N.2 = K.2 from hF.1]
        exact k1 k hk
      · rw [show N.2 = K.2 from hF.1]
        exact k2 i hi
      · dsimp only
        rw [vup_s, hm]
        omega
      · dsimp only
        rw [vup_o (by omega), hF.2 0 (by omega) (by omega)]
        exact k4 k hk
      · rw [← hm]
        exact hX2.keep (fun i h1 h2 => by funext b; exact vup_o (by omega))
      · rw [← hm] at h1
        funext b
        dsimp only
        rw [vup_o (by omega), hF.2 i h1 (by omega)]
        exact congrFun (k5 i hi) b
  refine v_icmp_lt 54 dX3_remember_5 (by decide) (by omega) (by decide) (fun h5 => ?_) (fun h5 => ?_)
  · skip
    first | exact jn54 M _ _ (fun k hk => by rw [xh, if_neg (by omega)]; exact hh k hk) (fun _ _ => rfl) (by rw [hr]; omega) (fun _ _ => rfl) (fun _ _ => rfl) | exact jn54 _ _ _ (fun k hk => by dsimp only; rw [vupR, xh]; have e5 : r = 5 := (by omega); by_cases e : k = 4; (rw [if_pos e, if_pos e5, if_pos e]); rw [if_neg e, if_pos e5, if_neg e]; exact q1 k (by omega)) (fun i hi => (vupR_o hi).trans (e2 i hi)) (by dsimp only; rw [vup_s]; omega) (fun k hk => by dsimp only; rw [vup_o (by omega), e1]) (fun i hi => by funext b; dsimp only; rw [vup_o (by omega), e1])
  · skip
    refine v_aload_n 0 dX3_remember_8 rfl rfl ?_
    refine v_getR lk_X3_19 rfl (rfl : SH 0 = _) (ow_2 hLX) dX3_remember_9 ?_
    refine v_iconst dX3_remember_12 ?_
    refine v_aald (rfl : SH 21 = _) (by omega) (hh 0 (by decide)) dX3_remember_13 ?_
    refine v_ast1 dX3_remember_14 rfl ?_
    refine v_iconst dX3_remember_15 ?_
    refine v_ist2 dX3_remember_16 rfl ?_
    have lp17 : ∀ (dd k : Nat) (K : Mem), k + dd = 5 → 1 ≤ k → K.1 = M.1 → (∀ i, i ≠ 21 → K.2 i = M.2 i) → (∀ j, j + 1 < k → K.2 21 j = some (h (j + 1))) → (∀ j, k ≤ j + 1 → j < 5 → K.2 21 j = some (h j)) → vO x Q G cX3_remember RX3 17 [some (aR (some 0)), some (aR (some (h 0))), some (aI (k : Int))] [] K := by
      intro dd
      induction dd with
      | zero =>
        intro k K hd hk1 e1 e2 q1 q2
        obtain rfl : k = 5 := by omega
        have hLK := hLX.keep e2
        refine v_iload_n 2 dX3_remember_17 rfl rfl ?_
        refine v_iconst dX3_remember_18 ?_
        refine v_icmp_ge 42 dX3_remember_19 (by decide) (by omega) (by decide) (fun h19 => ?_) (fun h19 => ?_)
        · skip
          refine v_aload_n 0 dX3_remember_42 rfl rfl ?_
          refine v_getR lk_X3_19 rfl (rfl : SH 0 = _) (ow_2 hLK) dX3_remember_43 ?_
          refine v_iconst dX3_remember_46 ?_
          refine v_aload_n 1 dX3_remember_47 rfl rfl ?_
          refine v_aast (j := 4) (by decide) (rfl : SH 21 = _) (st_o (hB 0 (by decide)).1) (by omega) dX3_remember_48 ?_
          rw [show Int.toNat 4 = 4 from rfl]
          refine v_aload_n 0 dX3_remember_49 rfl rfl ?_
          refine v_iconst dX3_remember_50 ?_
          refine v_putI lp_X3_279 rfl rfl (rfl : SH 0 = _) dX3_remember_51 ?_
          first | exact jn54 M _ _ (fun k hk => by rw [xh, if_neg (by omega)]; exact hh k hk) (fun _ _ => rfl) (by rw [hr]; omega) (fun _ _ => rfl) (fun _ _ => rfl) | exact jn54 _ _ _ (fun k hk => by dsimp only; rw [vupR, xh]; have e5 : r = 5 := (by omega); by_cases e : k = 4; (rw [if_pos e, if_pos e5, if_pos e]); rw [if_neg e, if_pos e5, if_neg e]; exact q1 k (by omega)) (fun i hi => (vupR_o hi).trans (e2 i hi)) (by dsimp only; rw [vup_s]; omega) (fun k hk => by dsimp only; rw [vup_o (by omega), e1]) (fun i hi => by funext b; dsimp only; rw [vup_o (by omega), e1])
        · skip
          exact absurd h19 (by omega)
      | succ dd ih =>
        intro k K hd hk1 e1 e2 q1 q2
        have hLK := hLX.keep e2
        refine v_iload_n 2 dX3_remember_17 rfl rfl ?_
        refine v_iconst dX3_remember_18 ?_
        refine v_icmp_ge 42 dX3_remember_19 (by decide) (by omega) (by decide) (fun h19 => ?_) (fun h19 => ?_)
        · skip
          exact absurd h19 (by omega)
        · skip
          refine v_aload_n 0 dX3_remember_22 rfl rfl ?_
          refine v_getR lk_X3_19 rfl (rfl : SH 0 = _) (ow_2 hLK) dX3_remember_23 ?_
          refine v_iload_n 2 dX3_remember_26 rfl rfl ?_
          refine v_iconst dX3_remember_27 ?_
          refine v_isub dX3_remember_28 ?_
          refine v_aload_n 0 dX3_remember_29 rfl rfl ?_
          refine v_getR lk_X3_19 rfl (rfl : SH 0 = _) (ow_2 hLK) dX3_remember_30 ?_
          refine v_iload_n 2 dX3_remember_33 rfl rfl ?_
          refine v_aald (rfl : SH 21 = _) (by omega) (q2 k (by omega) (by omega)) dX3_remember_34 ?_
          refine v_aast (j := (k : Int) - 1) (by decide) (rfl : SH 21 = _) (st_o (hB k (by omega)).1) (by omega) dX3_remember_35 ?_
          rw [show ((k : Int) - 1).toNat = k - 1 by omega]
          refine v_iinc2 dX3_remember_36 rfl ?_
          refine v_goto 17 dX3_remember_39 (by decide) ?_
          exact ih (k + 1) _ (by omega) (by omega) e1 (fun i hi => (vupR_o hi).trans (e2 i hi)) (fun j hj => by dsimp only; rw [vupR]; by_cases e : j = k - 1; rw [if_pos e, show j + 1 = k by omega]; rw [if_neg e]; exact q1 j (by omega)) (fun j hj hj5 => by dsimp only; rw [vupR, if_neg (by omega)]; exact q2 j (by omega) hj5)
    exact lp17 4 1 M rfl (Nat.le_refl _) rfl (fun _ _ => rfl) (fun j hj => absurd hj (by omega)) (fun j _ hj => hh j hj)
