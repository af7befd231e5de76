/-! ===== the twin: what is recorded; changes ===== -/
/-- the state v is recorded behind n states -/
def mRec (n : Nat) (v : Sg) (M M' : Mem) : Prop := M'.2 = M.2 ∧ (∀ i, i ≠ 110 → i ≠ 113 → M'.1 i = M.1 i) ∧ (∀ k, k ≠ 3 → M'.1 110 k = M.1 110 k) ∧ M'.1 110 3 = ((min n 4 + 1 : Nat) : Int) ∧ (∀ p, p < 264 * min n 4 → M'.1 113 p = M.1 113 (p + 264 * (n / 5))) ∧ ∀ k, k < 264 → M'.1 113 (264 * min n 4 + k) = v k
theorem mRec.lay {n : Nat} {v : Sg} {M M' : Mem} (h : mRec n v M M') (hl : LayM M.2) : LayM M'.2 := by rw [h.1]; exact hl
theorem mRec.at {n : Nat} {v : Sg} {M M' : Mem} (h : mRec n v M M') {i : Nat} (a : i ≠ 110) (b : i ≠ 113) : M'.1 i = M.1 i := h.2.1 i a b
theorem vup_o {f : Nat → Nat → Int} {i k a b : Nat} {z : Int} (h : a ≠ i ∨ b ≠ k) : vup f i k z a b = f a b := by
  unfold vup
  rw [if_neg (fun q => by omega)]
theorem vup_s (f : Nat → Nat → Int) (i k : Nat) (z : Int) : vup f i k z i k = z := if_pos ⟨rfl, rfl⟩
theorem vup_nk (f : Nat → Nat → Int) {i k b : Nat} (a : Nat) (z : Int) (h : b ≠ k) : vup f i k z a b = f a b := by
  unfold vup
  rw [if_neg (fun q => h q.2)]
set_option maxRecDepth 100000 in
set_option maxHeartbeats 400000 in
theorem c_X4_records {l : Launch} {G : vGG} {M : Mem} {v : Sg} {n : Nat} (hLM : LayM M.2) (hv : M.1 111 = v) (hn : M.1 110 3 = (n : Int)) (h5 : n ≤ 5) : Co l yX4_records cX4_records 2 none (rmo 0 0) G [aR (some 110)] M (fun r M' => r = none ∧ mRec n v M M') := by
  refine Co.ofV (plainFor_of_name (by decide)) rfl rfl ?_
  intro x hxl hxR hlk hrt Q hQ
  obtain ⟨m, hm⟩ : ∃ m, m = min n 4 := ⟨_, rfl⟩
  show vO x Q G cX4_records RX4 0 [some (aR (some 110)), none] [] M
  refine v_aload_n 0 dX4_records_0 rfl rfl ?_
  refine o_getI (u := (n : Int)) lk_X4_63 rfl (rfl : SH 110 = _) hn dX4_records_1 ?_
  refine v_iconst dX4_records_4 ?_
  have jn44 : ∀ (K : Mem) (c1 : Option AV), K.2 = M.2 → (∀ i, i ≠ 110 → i ≠ 113 → K.1 i = M.1 i) → (∀ i, i ≠ 3 → K.1 110 i = M.1 110 i) → K.1 110 3 = (m : Int) → (∀ p, p < 264 * m → K.1 113 p = M.1 113 (p + 264 * (n / 5))) → vO x Q G cX4_records RX4 44 [some (aR (some 110)), c1] [] K := by
    intro K c1 e2 ei ek e3 ep
    refine v_iconst dX4_records_44 ?_
    refine v_ist1 dX4_records_45 rfl ?_
    have lp46 : ∀ (dd k : Nat) (K : Mem), k + dd = 264 → K.2 = M.2 → (∀ i, i ≠ 110 → i ≠ 113 → K.1 i = M.1 i) → (∀ i, i ≠ 3 → K.1 110 i = M.1 110 i) → K.1 110 3 = (m : Int) → (∀ p, p < 264 * m → K.1 113 p = M.1 113 (p + 264 * (n / 5))) → (∀ q, q < k → K.1 113 (264 * m + q) = v q) → vO x Q G cX4_records RX4 46 [some (aR (some 110)), some (aI (k : Int))] [] K := by
      intro dd
      induction dd with
      | zero =>
        intro k K hd e2 ei ek e3 ep eq
        obtain rfl : k = 264 := by omega
        have hLK : LayM K.2 := by rw [e2]; exact hLM
        refine v_iload_n 1 dX4_records_46 rfl rfl ?_
        refine v_sipush dX4_records_47 (by decide) ?_
        refine v_icmp_ge 80 dX4_records_50 (by decide) (by omega) (by decide) (fun h50 => ?_) (fun h50 => ?_)
        · skip
          refine v_aload_n 0 dX4_records_80 rfl rfl ?_
          refine v_dup dX4_records_81 rfl ?_
          refine o_getI (u := (m : Int)) lk_X4_63 rfl (rfl : SH 110 = _) e3 dX4_records_82 ?_
          refine v_iconst dX4_records_85 ?_
          refine v_iadd dX4_records_86 ?_
          refine v_putI lp_X4_63 rfl rfl (rfl : SH 110 = _) dX4_records_87 ?_
          refine o_ret hQ hlk hrt dX4_records_90 ?_
          exact ⟨rfl, e2, (fun i h1 h2 => by rw [← ei i h1 h2]; funext b; exact vup_nid _ _ _ h1), (fun i h1 => by dsimp only; rw [vup_o (by omega)]; exact ek i h1), (by dsimp only; rw [vup_s, ← hm]; omega), (fun p hp => by dsimp only; rw [vup_o (by omega)]; exact ep p (by omega)), (fun q hq => by rw [← hm]; dsimp only; rw [vup_o (by omega)]; exact eq q hq)⟩
        · skip
          exact absurd h50 (by omega)
      | succ dd ih =>
        intro k K hd e2 ei ek e3 ep eq
        have hLK : LayM K.2 := by rw [e2]; exact hLM
        refine v_iload_n 1 dX4_records_46 rfl rfl ?_
        refine v_sipush dX4_records_47 (by decide) ?_
        refine v_icmp_ge 80 dX4_records_50 (by decide) (by omega) (by decide) (fun h50 => ?_) (fun h50 => ?_)
        · skip
          exact absurd h50 (by omega)
        · skip
          refine v_aload_n 0 dX4_records_53 rfl rfl ?_
          refine v_getR lk_X4_16 rfl (rfl : SH 110 = _) (mo_2 hLK) dX4_records_54 ?_
          refine v_sipush dX4_records_57 (by decide) ?_
          refine v_aload_n 0 dX4_records_60 rfl rfl ?_
          refine o_getI (u := (m : Int)) lk_X4_63 rfl (rfl : SH 110 = _) e3 dX4_records_61 ?_
          refine v_imul dX4_records_64 ?_
          refine v_iload_n 1 dX4_records_65 rfl rfl ?_
          refine v_iadd dX4_records_66 ?_
          refine v_aload_n 0 dX4_records_67 rfl rfl ?_
          refine v_getR lk_X4_7 rfl (rfl : SH 110 = _) (mo_0 hLK) dX4_records_68 ?_
          refine v_iload_n 1 dX4_records_71 rfl rfl ?_
          refine o_iald (j := k) (u := v k) (rfl : SH 111 = _) (by omega) (by omega) (by rw [ei 111 (by decide) (by decide), hv]) dX4_records_72 ?_
          refine o_iast (j := (264 * m) + k) (by omega) (rfl : SH 113 = _) (by omega) (by omega) dX4_records_73 ?_
          refine v_iinc1 dX4_records_74 rfl ?_
          refine v_goto 46 dX4_records_77 (by decide) ?_
          exact ih (k + 1) _ (by omega) e2 (fun i h1 h2 => by rw [← ei i h1 h2]; funext b; exact vup_nid _ _ _ h2) (fun i h1 => by dsimp only; rw [vup_o (by omega)]; exact ek i h1) (by dsimp only; rw [vup_o (by omega)]; exact e3) (fun p hp => by dsimp only; rw [vup_in, if_neg (by omega)]; exact ep p hp) (fun q hq => by dsimp only; rw [vup_in]; split <;> rename_i h <;> first | exact eq q (by omega) | rw [show q = k by omega])
    exact lp46 264 0 K rfl e2 ei ek e3 ep (fun q hq => absurd hq (by omega))
  refine v_icmp_ne 44 dX4_records_5 (by decide) (by omega) (by decide) (fun h5 => ?_) (fun h5 => ?_)
  · skip
    first | exact jn44 M _ rfl (fun _ _ _ => rfl) (fun _ _ => rfl) (by rw [hn]; omega) (fun p hp => by rw [show n / 5 = 0 by omega]; rfl) | exact jn44 _ _ e2 (fun i h1 h2 => by rw [← ei i h2]; funext b; exact vup_nid _ _ _ h1) (fun i h1 => by dsimp only; rw [vup_o (by omega), ei 110 (by decide)]) (by dsimp only; rw [vup_s, show m = 4 by omega]; rfl) (fun p hp => by rw [show n / 5 = 1 by omega]; dsimp only; rw [vup_o (by omega)]; exact ep p (by omega))
  · skip
    refine v_iconst dX4_records_8 ?_
    refine v_ist1 dX4_records_9 rfl ?_
    have lp10 : ∀ (dd k : Nat) (K : Mem), k + dd = 1056 → K.2 = M.2 → (∀ i, i ≠ 113 → K.1 i = M.1 i) → (∀ p, p < k → K.1 113 p = M.1 113 (p + 264)) → (∀ p, k ≤ p → K.1 113 p = M.1 113 p) → vO x Q G cX4_records RX4 10 [some (aR (some 110)), some (aI (k : Int))] [] K := by
      intro dd
      induction dd with
      | zero =>
        intro k K hd e2 ei ep eq
        obtain rfl : k = 1056 := by omega
        have hLK : LayM K.2 := by rw [e2]; exact hLM
        refine v_iload_n 1 dX4_records_10 rfl rfl ?_
        refine v_sipush dX4_records_11 (by decide) ?_
        refine v_icmp_ge 39 dX4_records_14 (by decide) (by omega) (by decide) (fun h14 => ?_) (fun h14 => ?_)
        · skip
          refine v_aload_n 0 dX4_records_39 rfl rfl ?_
          refine v_iconst dX4_records_40 ?_
          refine v_putI lp_X4_63 rfl rfl (rfl : SH 110 = _) dX4_records_41 ?_
          first | exact jn44 M _ rfl (fun _ _ _ => rfl) (fun _ _ => rfl) (by rw [hn]; omega) (fun p hp => by rw [show n / 5 = 0 by omega]; rfl) | exact jn44 _ _ e2 (fun i h1 h2 => by rw [← ei i h2]; funext b; exact vup_nid _ _ _ h1) (fun i h1 => by dsimp only; rw [vup_o (by omega), ei 110 (by decide)]) (by dsimp only; rw [vup_s, show m = 4 by omega]; rfl) (fun p hp => by rw [show n / 5 = 1 by omega]; dsimp only; rw [vup_o (by omega)]; exact ep p (by omega))
        · skip
          exact absurd h14 (by omega)
      | succ dd ih =>
        intro k K hd e2 ei ep eq
        have hLK : LayM K.2 := by rw [e2]; exact hLM
        refine v_iload_n 1 dX4_records_10 rfl rfl ?_
        refine v_sipush dX4_records_11 (by decide) ?_
        refine v_icmp_ge 39 dX4_records_14 (by decide) (by omega) (by decide) (fun h14 => ?_) (fun h14 => ?_)
        · skip
          exact absurd h14 (by omega)
        · skip
          refine v_aload_n 0 dX4_records_17 rfl rfl ?_
          refine v_getR lk_X4_16 rfl (rfl : SH 110 = _) (mo_2 hLK) dX4_records_18 ?_
          refine v_iload_n 1 dX4_records_21 rfl rfl ?_
          refine v_aload_n 0 dX4_records_22 rfl rfl ?_
          refine v_getR lk_X4_16 rfl (rfl : SH 110 = _) (mo_2 hLK) dX4_records_23 ?_
          refine v_iload_n 1 dX4_records_26 rfl rfl ?_
          refine v_sipush dX4_records_27 (by decide) ?_
          refine v_iadd dX4_records_30 ?_
          refine o_iald (j := k + 264) (u := M.1 113 (k + 264)) (rfl : SH 113 = _) (by omega) (by omega) (eq _ (by omega)) dX4_records_31 ?_
          refine o_iast (j := k) (by omega) (rfl : SH 113 = _) (by omega) (by omega) dX4_records_32 ?_
          refine v_iinc1 dX4_records_33 rfl ?_
          refine v_goto 10 dX4_records_36 (by decide) ?_
          exact ih (k + 1) _ (by omega) e2 (fun i hi => by rw [← ei i hi]; funext b; exact vup_nid _ _ _ hi) (fun p hp => by dsimp only; rw [vup_in]; split <;> rename_i h <;> first | exact ep p (by omega) | rw [show p = k by omega]) (fun p hp => by dsimp only; rw [vup_in, if_neg (by omega)]; exact eq p (by omega))
    exact lp10 1056 0 M rfl rfl (fun _ _ => rfl) (fun p hp => absurd hp (by omega)) (fun _ _ => rfl)
