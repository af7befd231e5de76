/-! ===== the twin: undo, save, restore, append, clearText ===== -/
/-- the last of p + 1 recorded states comes back -/
def mUndo (p : Nat) (M M' : Mem) : Prop := M'.2 = M.2 ∧ (∀ i, i ≠ 110 → i ≠ 111 → M'.1 i = M.1 i) ∧ (∀ k, k ≠ 3 → M'.1 110 k = M.1 110 k) ∧ M'.1 110 3 = (p : Int) ∧ ∀ q, q < 264 → M'.1 111 q = M.1 113 (264 * p + q)
def mSave (s : Nat) (v : Sg) (M M' : Mem) : Prop := M'.2 = M.2 ∧ (∀ i, i ≠ 114 → i ≠ 115 → M'.1 i = M.1 i) ∧ (∀ q, q < 264 → M'.1 114 (264 * s + q) = v q) ∧ (∀ p, p < 264 * s ∨ 264 * s + 264 ≤ p → M'.1 114 p = M.1 114 p) ∧ M'.1 115 s = 1 ∧ ∀ t, t ≠ s → M'.1 115 t = M.1 115 t
def mRest (n s : Nat) (v : Sg) (M M' : Mem) : Prop := ∃ K : Mem, mRec n v M K ∧ M'.2 = K.2 ∧ (∀ i, i ≠ 111 → M'.1 i = K.1 i) ∧ ∀ q, q < 264 → M'.1 111 q = M.1 114 (264 * s + q)
set_option maxRecDepth 100000 in
set_option maxHeartbeats 400000 in
theorem c_X4_undo {l : Launch} {G : vGG} {M : Mem} {n : Nat} (hLM : LayM M.2) (hn : M.1 110 3 = (n : Int)) (h5 : n ≤ 5) : Co l yX4_undo cX4_undo 2 (some .int) (rmo 0 0) G [aR (some 110)] M (fun r M' => (n = 0 → r = some (aI (-1000003)) ∧ M' = M) ∧ ∀ p, n = p + 1 → r = some (aI (p : Int)) ∧ mUndo p M M') := by
  refine Co.ofV (plainFor_of_name (by decide)) rfl rfl ?_
  intro x hxl hxR hlk hrt Q hQ
  show vO x Q G cX4_undo RX4 0 [some (aR (some 110)), none] [] M
  refine v_aload_n 0 dX4_undo_0 rfl rfl ?_
  refine o_getI (u := (n : Int)) lk_X4_63 rfl (rfl : SH 110 = _) hn dX4_undo_1 ?_
  refine v_if_ne 10 dX4_undo_4 (by decide) (by omega) (fun h4 => ?_) (fun h4 => ?_)
  · skip
    obtain ⟨p, rfl⟩ : ∃ p : Nat, n = p + 1 := ⟨n - 1, by omega⟩
    refine v_aload_n 0 dX4_undo_10 rfl rfl ?_
    refine v_dup dX4_undo_11 rfl ?_
    refine o_getI (u := ((p + 1 : Nat) : Int)) lk_X4_63 rfl (rfl : SH 110 = _) hn dX4_undo_12 ?_
    refine v_iconst dX4_undo_15 ?_
    refine v_isub dX4_undo_16 ?_
    refine v_putI lp_X4_63 rfl rfl (rfl : SH 110 = _) dX4_undo_17 ?_
    refine v_iconst dX4_undo_20 ?_
    refine v_ist1 dX4_undo_21 rfl ?_
    have lp22 : ∀ (dd k : Nat) (K : Mem), k + dd = 264 → K.2 = M.2 → (∀ i, i ≠ 110 → i ≠ 111 → K.1 i = M.1 i) → (∀ i, i ≠ 3 → K.1 110 i = M.1 110 i) → K.1 110 3 = (p : Int) → (∀ q, q < k → K.1 111 q = M.1 113 (264 * p + q)) → vO x Q G cX4_undo RX4 22 [some (aR (some 110)), some (aI (k : Int))] [] K := by
      intro dd
      induction dd with
      | zero =>
        intro k K hd e2 ei ek e3 hq
        obtain rfl : k = 264 := by omega
        have hLK : LayM K.2 := by rw [e2]; exact hLM
        refine v_iload_n 1 dX4_undo_22 rfl rfl ?_
        refine v_sipush dX4_undo_23 (by decide) ?_
        refine v_icmp_ge 56 dX4_undo_26 (by decide) (by omega) (by decide) (fun h26 => ?_) (fun h26 => ?_)
        · skip
          refine v_aload_n 0 dX4_undo_56 rfl rfl ?_
          refine o_getI (u := (p : Int)) lk_X4_63 rfl (rfl : SH 110 = _) e3 dX4_undo_57 ?_
          refine o_iret hQ hlk hrt dX4_undo_60 ?_
          exact ⟨fun q => absurd q (by omega), fun p2 q => by obtain rfl : p2 = p := (by omega); exact ⟨rfl, e2, ei, ek, e3, hq⟩⟩
        · skip
          exact absurd h26 (by omega)
      | succ dd ih =>
        intro k K hd e2 ei ek e3 hq
        have hLK : LayM K.2 := by rw [e2]; exact hLM
        refine v_iload_n 1 dX4_undo_22 rfl rfl ?_
        refine v_sipush dX4_undo_23 (by decide) ?_
        refine v_icmp_ge 56 dX4_undo_26 (by decide) (by omega) (by decide) (fun h26 => ?_) (fun h26 => ?_)
        · skip
          exact absurd h26 (by omega)
        · skip
          refine v_aload_n 0 dX4_undo_29 rfl rfl ?_
          refine v_getR lk_X4_7 rfl (rfl : SH 110 = _) (mo_0 hLK) dX4_undo_30 ?_
          refine v_iload_n 1 dX4_undo_33 rfl rfl ?_
          refine v_aload_n 0 dX4_undo_34 rfl rfl ?_
          refine v_getR lk_X4_16 rfl (rfl : SH 110 = _) (mo_2 hLK) dX4_undo_35 ?_
          refine v_sipush dX4_undo_38 (by decide) ?_
          refine v_aload_n 0 dX4_undo_41 rfl rfl ?_
          refine o_getI (u := (p : Int)) lk_X4_63 rfl (rfl : SH 110 = _) e3 dX4_undo_42 ?_
          refine v_imul dX4_undo_45 ?_
          refine v_iload_n 1 dX4_undo_46 rfl rfl ?_
          refine v_iadd dX4_undo_47 ?_
          refine o_iald (j := (264 * p) + k) (u := M.1 113 (264 * p + k)) (rfl : SH 113 = _) (by omega) (by omega) (by rw [ei 113 (by decide) (by decide)]) dX4_undo_48 ?_
          refine o_iast (j := k) (by omega) (rfl : SH 111 = _) (by omega) (by omega) dX4_undo_49 ?_
          refine v_iinc1 dX4_undo_50 rfl ?_
          refine v_goto 22 dX4_undo_53 (by decide) ?_
          exact ih (k + 1) _ (by omega) e2 (fun i h1 h2 => by funext b; dsimp only; rw [vup_o (by omega)]; exact congrFun (ei i h1 h2) b) (fun i h1 => by dsimp only; rw [vup_o (by omega)]; exact ek i h1) (by dsimp only; rw [vup_o (by omega)]; exact e3) (fun q h => by dsimp only; rw [vup_in]; split <;> rename_i e <;> first | exact hq q (by omega) | rw [show q = k by omega])
    exact lp22 264 0 _ rfl rfl (fun i h1 h2 => by funext b; dsimp only; rw [vup_o (by omega)]) (fun i h1 => by dsimp only; rw [vup_o (by omega)]) (by dsimp only; rw [vup_s]; omega) (fun q h => absurd h (by omega))
  · skip
    refine v_ldc (-1000003) kc_X4_178 (by decide) dX4_undo_7 ?_
    refine o_iret hQ hlk hrt dX4_undo_9 ?_
    exact ⟨fun _ => ⟨rfl, rfl⟩, fun p q => absurd q (by omega)⟩
set_option maxRecDepth 100000 in
set_option maxHeartbeats 400000 in
theorem c_X4_save {l : Launch} {G : vGG} {M : Mem} {v : Sg} (hLM : LayM M.2) (hv : M.1 111 = v) {a : Int} (ha : R32 a) : Co l yX4_save cX4_save 3 (some .int) (rmo 1 22) G [aR (some 110), aI a] M (fun r M' => (0 ≤ a ∧ a ≤ 1 → r = some (aI (v 13)) ∧ mSave a.toNat v M M') ∧ (¬ (0 ≤ a ∧ a ≤ 1) → r = some (aI (-1000001)) ∧ M' = M)) := by
  refine Co.ofV (plainFor_of_name (by decide)) rfl rfl ?_
  intro x hxl hxR hlk hrt Q hQ
  show vO x Q G cX4_save RX4 0 [some (aR (some 110)), some (aI a), none] [] M
  refine v_iload_n 1 dX4_save_0 rfl rfl ?_
  refine v_iconst dX4_save_1 ?_
  refine v_iconst dX4_save_2 ?_
  refine oSv3 (c_X4_in (by omega) (by decide) (by decide)) k0_X4_in ki_X4_in ml_X4_59 (vRo_of hxR (by decide) (by decide)) dX4_save_3 (Nat.le_of_ble_eq_true rfl) ?_
  refine v_if_ne 12 dX4_save_6 (by decide) (bP_R _) (fun h6 => ?_) (fun h6 => ?_)
  · skip
    have ga := bP_n0.mp h6
    obtain ⟨s, rfl⟩ : ∃ s : Nat, a = ((s : Nat) : Int) := ⟨(a).toNat, by omega⟩
    refine v_iconst dX4_save_12 ?_
    refine v_ist2 dX4_save_13 rfl ?_
    have lp14 : ∀ (dd k : Nat) (K : Mem), k + dd = 264 → K.2 = M.2 → (∀ i, i ≠ 114 → K.1 i = M.1 i) → (∀ q, q < k → K.1 114 (264 * s + q) = v q) → (∀ p, p < 264 * s ∨ 264 * s + 264 ≤ p → K.1 114 p = M.1 114 p) → vO x Q G cX4_save RX4 14 [some (aR (some 110)), some (aI (s : Int)), some (aI (k : Int))] [] K := by
      intro dd
      induction dd with
      | zero =>
        intro k K hd e2 ei hq hp
        obtain rfl : k = 264 := by omega
        have hLK : LayM K.2 := by rw [e2]; exact hLM
        have hvK : K.1 111 = v := (ei 111 (by decide)).trans hv
        refine v_iload_n 2 dX4_save_14 rfl rfl ?_
        refine v_sipush dX4_save_15 (by decide) ?_
        refine v_icmp_ge 45 dX4_save_18 (by decide) (by omega) (by decide) (fun h18 => ?_) (fun h18 => ?_)
        · skip
          refine v_aload_n 0 dX4_save_45 rfl rfl ?_
          refine v_getR lk_X4_22 rfl (rfl : SH 110 = _) (mo_5 hLK) dX4_save_46 ?_
          refine v_iload_n 1 dX4_save_49 rfl rfl ?_
          refine v_iconst dX4_save_50 ?_
          refine o_zast (j := s) (by decide) (by omega) (rfl : SH 115 = _) (by omega) (by omega) dX4_save_51 ?_
          refine v_aload_n 0 dX4_save_52 rfl rfl ?_
          refine v_getR lk_X4_7 rfl (rfl : SH 110 = _) (mo_0 hLK) dX4_save_53 ?_
          refine v_bipush dX4_save_56 (by decide) ?_
          refine o_iald (j := 13) (u := v 13) (rfl : SH 111 = _) (by omega) (by omega) (by dsimp only; rw [vup_o (by omega), hvK]) dX4_save_58 ?_
          refine o_iret hQ hlk hrt dX4_save_59 ?_
          exact ⟨fun _ => ⟨rfl, e2, fun i h1 h2 => by funext b; dsimp only; rw [vup_o (by omega)]; exact congrFun (ei i h1) b, fun q h => by dsimp only; rw [vup_o (by omega)]; exact hq q h, fun p h => by dsimp only; rw [vup_o (by omega)]; exact hp p h, by dsimp only; exact vup_s _ _ _ _, fun t h => by dsimp only; rw [vup_o (by omega), ei 115 (by decide)]⟩, fun q => absurd ga q⟩
        · skip
          exact absurd h18 (by omega)
      | succ dd ih =>
        intro k K hd e2 ei hq hp
        have hLK : LayM K.2 := by rw [e2]; exact hLM
        have hvK : K.1 111 = v := (ei 111 (by decide)).trans hv
        refine v_iload_n 2 dX4_save_14 rfl rfl ?_
        refine v_sipush dX4_save_15 (by decide) ?_
        refine v_icmp_ge 45 dX4_save_18 (by decide) (by omega) (by decide) (fun h18 => ?_) (fun h18 => ?_)
        · skip
          exact absurd h18 (by omega)
        · skip
          refine v_aload_n 0 dX4_save_21 rfl rfl ?_
          refine v_getR lk_X4_19 rfl (rfl : SH 110 = _) (mo_4 hLK) dX4_save_22 ?_
          refine v_sipush dX4_save_25 (by decide) ?_
          refine v_iload_n 1 dX4_save_28 rfl rfl ?_
          refine v_imul dX4_save_29 ?_
          refine v_iload_n 2 dX4_save_30 rfl rfl ?_
          refine v_iadd dX4_save_31 ?_
          refine v_aload_n 0 dX4_save_32 rfl rfl ?_
          refine v_getR lk_X4_7 rfl (rfl : SH 110 = _) (mo_0 hLK) dX4_save_33 ?_
          refine v_iload_n 2 dX4_save_36 rfl rfl ?_
          refine o_iald (j := k) (u := v (k)) (rfl : SH 111 = _) (by omega) (by omega) (by rw [hvK]) dX4_save_37 ?_
          refine o_iast (j := (264 * s) + k) (by omega) (rfl : SH 114 = _) (by omega) (by omega) dX4_save_38 ?_
          refine v_iinc2 dX4_save_39 rfl ?_
          refine v_goto 14 dX4_save_42 (by decide) ?_
          exact ih (k + 1) _ (by omega) e2 (fun i h1 => by funext b; dsimp only; rw [vup_o (by omega)]; exact congrFun (ei i h1) b) (fun q h => by dsimp only; rw [vup_in]; split <;> rename_i e <;> first | exact hq q (by omega) | rw [show q = k by omega]) (fun p h => by dsimp only; rw [vup_o (by omega)]; exact hp p h)
    exact lp14 264 0 M rfl rfl (fun i h1 => rfl) (fun q h => absurd h (by omega)) (fun p h => rfl)
  · skip
    have ga := bP_0.mp h6
    refine v_ldc (-1000001) kc_X4_71 (by decide) dX4_save_9 ?_
    refine o_iret hQ hlk hrt dX4_save_11 ?_
    exact ⟨fun q => absurd q ga, fun _ => ⟨rfl, rfl⟩⟩
set_option maxRecDepth 100000 in
set_option maxHeartbeats 400000 in
theorem c_X4_restore {l : Launch} {G : vGG} {M : Mem} {v : Sg} (hLM : LayM M.2) (hv : M.1 111 = v) {n : Nat} (hn : M.1 110 3 = (n : Int)) (h5 : n ≤ 5) (hk : ∀ t, t < 2 → M.1 115 t = 0 ∨ M.1 115 t = 1) {a : Int} (ha : R32 a) : Co l yX4_restore cX4_restore 3 (some .int) (rmo 1 22) G [aR (some 110), aI a] M (fun r M' => ((0 ≤ a ∧ a ≤ 1) ∧ ¬ M.1 115 a.toNat = 0 → r = some (aI (M.1 114 (264 * a.toNat + 13))) ∧ mRest n a.toNat v M M') ∧ (¬ ((0 ≤ a ∧ a ≤ 1) ∧ ¬ M.1 115 a.toNat = 0) → r = some (aI (if 0 ≤ a ∧ a ≤ 1 then -1000003 else -1000001)) ∧ M' = M)) := by
  refine Co.ofV (plainFor_of_name (by decide)) rfl rfl ?_
  intro x hxl hxR hlk hrt Q hQ
  show vO x Q G cX4_restore RX4 0 [some (aR (some 110)), some (aI a), none] [] M
  refine v_iload_n 1 dX4_restore_0 rfl rfl ?_
  refine v_iconst dX4_restore_1 ?_
  refine v_iconst dX4_restore_2 ?_
  refine oSv3 (c_X4_in (by omega) (by decide) (by decide)) k0_X4_in ki_X4_in ml_X4_59 (vRo_of hxR (by decide) (by decide)) dX4_restore_3 (Nat.le_of_ble_eq_true rfl) ?_
  refine v_if_ne 12 dX4_restore_6 (by decide) (bP_R _) (fun h6 => ?_) (fun h6 => ?_)
  · skip
    have ga := bP_n0.mp h6
    obtain ⟨s, rfl⟩ : ∃ s : Nat, a = ((s : Nat) : Int) := ⟨(a).toNat, by omega⟩
    refine v_aload_n 0 dX4_restore_12 rfl rfl ?_
    refine v_getR lk_X4_22 rfl (rfl : SH 110 = _) (mo_5 hLM) dX4_restore_13 ?_
    refine v_iload_n 1 dX4_restore_16 rfl rfl ?_
    refine o_zald (j := s) (u := _) (rfl : SH 115 = _) (by omega) (by omega) rfl dX4_restore_17 ?_
    have hks := hk s (by omega)
    refine v_if_ne 24 dX4_restore_18 (by decide) (by omega) (fun h18 => ?_) (fun h18 => ?_)
    · skip
      refine v_aload_n 0 dX4_restore_24 rfl rfl ?_
      refine oVm0 4 (c_X4_records hLM hv hn h5) k0_X4_records ki_X4_records ml_X4_73 (rfl : SH 110 = _) (by decide) (vRo_of hxR (by decide) (by decide)) dX4_restore_25 (Nat.le_of_ble_eq_true rfl) (fun N hN => ?_)
      have hR := hN
      have hLN := hR.lay hLM
      have hvN : N.1 111 = v := (hR.at (by decide) (by decide)).trans hv
      have hF : fr mL N N := fr_rf
      refine v_iconst dX4_restore_28 ?_
      refine v_ist2 dX4_restore_29 rfl ?_
      have lp30 : ∀ (dd k : Nat) (K : Mem), k + dd = 264 → K.2 = N.2 → (∀ i, i ≠ 111 → K.1 i = N.1 i) → (∀ q, q < k → K.1 111 q = M.1 114 (264 * s + q)) → vO x Q G cX4_restore RX4 30 [some (aR (some 110)), some (aI (s : Int)), some (aI (k : Int))] [] K := by
        intro dd
        induction dd with
        | zero =>
          intro k K hd e2 ei hq
          obtain rfl : k = 264 := by omega
          have hLK : LayM K.2 := by rw [e2]; exact hLN
          refine v_iload_n 2 dX4_restore_30 rfl rfl ?_
          refine v_sipush dX4_restore_31 (by decide) ?_
          refine v_icmp_ge 61 dX4_restore_34 (by decide) (by omega) (by decide) (fun h34 => ?_) (fun h34 => ?_)
          · skip
            refine v_aload_n 0 dX4_restore_61 rfl rfl ?_
            refine v_getR lk_X4_7 rfl (rfl : SH 110 = _) (mo_0 hLK) dX4_restore_62 ?_
            refine v_bipush dX4_restore_65 (by decide) ?_
            refine o_iald (j := 13) (u := M.1 114 (264 * s + 13)) (rfl : SH 111 = _) (by omega) (by omega) (hq 13 (by decide)) dX4_restore_67 ?_
            refine o_iret hQ hlk hrt dX4_restore_68 ?_
            exact ⟨fun _ => ⟨rfl, N, hR, e2, ei, hq⟩, fun q => absurd ⟨ga, h18⟩ q⟩
          · skip
            exact absurd h34 (by omega)
        | succ dd ih =>
          intro k K hd e2 ei hq
          have hLK : LayM K.2 := by rw [e2]; exact hLN
          refine v_iload_n 2 dX4_restore_30 rfl rfl ?_
          refine v_sipush dX4_restore_31 (by decide) ?_
          refine v_icmp_ge 61 dX4_restore_34 (by decide) (by omega) (by decide) (fun h34 => ?_) (fun h34 => ?_)
          · skip
            exact absurd h34 (by omega)
          · skip
            refine v_aload_n 0 dX4_restore_37 rfl rfl ?_
            refine v_getR lk_X4_7 rfl (rfl : SH 110 = _) (mo_0 hLK) dX4_restore_38 ?_
            refine v_iload_n 2 dX4_restore_41 rfl rfl ?_
            refine v_aload_n 0 dX4_restore_42 rfl rfl ?_
            refine v_getR lk_X4_19 rfl (rfl : SH 110 = _) (mo_4 hLK) dX4_restore_43 ?_
            refine v_sipush dX4_restore_46 (by decide) ?_
            refine v_iload_n 1 dX4_restore_49 rfl rfl ?_
            refine v_imul dX4_restore_50 ?_
            refine v_iload_n 2 dX4_restore_51 rfl rfl ?_
            refine v_iadd dX4_restore_52 ?_
            refine o_iald (j := (264 * s) + k) (u := M.1 114 (264 * s + k)) (rfl : SH 114 = _) (by omega) (by omega) (by rw [ei 114 (by decide), hR.at (by decide) (by decide)]) dX4_restore_53 ?_
            refine o_iast (j := k) (by omega) (rfl : SH 111 = _) (by omega) (by omega) dX4_restore_54 ?_
            refine v_iinc2 dX4_restore_55 rfl ?_
            refine v_goto 30 dX4_restore_58 (by decide) ?_
            exact ih (k + 1) _ (by omega) e2 (fun i h1 => by funext b; dsimp only; rw [vup_o (by omega)]; exact congrFun (ei i h1) b) (fun q h => by dsimp only; rw [vup_in]; split <;> rename_i e <;> first | exact hq q (by omega) | rw [show q = k by omega])
      exact lp30 264 0 N rfl rfl (fun i h1 => rfl) (fun q h => absurd h (by omega))
    · skip
      refine v_ldc (-1000003) kc_X4_178 (by decide) dX4_restore_21 ?_
      refine o_iret hQ hlk hrt dX4_restore_23 ?_
      exact ⟨fun q => absurd h18 q.2, fun _ => ⟨by rw [if_pos ga], rfl⟩⟩
  · skip
    have ga := bP_0.mp h6
    refine v_ldc (-1000001) kc_X4_71 (by decide) dX4_restore_9 ?_
    refine o_iret hQ hlk hrt dX4_restore_11 ?_
    exact ⟨fun q => absurd q.1 ga, fun _ => ⟨by rw [if_neg ga], rfl⟩⟩
set_option maxRecDepth 100000 in
set_option maxHeartbeats 400000 in
theorem c_X4_append {l : Launch} {G : vGG} {M : Mem} (hLM : LayM M.2) {t : Nat} (ht : M.1 110 7 = (t : Int)) (h80 : t ≤ 80) {a : Int} (ha : R32 a) : Co l yX4_append cX4_append 2 (some .int) (rmo 1 22) G [aR (some 110), aI a] M (fun r M' => ((0 ≤ a ∧ a ≤ 127) ∧ ¬ t = 80 → r = some (aI ((t : Int) + 1)) ∧ M' = (vup (vup M.1 116 t a) 110 7 ((t : Int) + 1), M.2)) ∧ (¬ ((0 ≤ a ∧ a ≤ 127) ∧ ¬ t = 80) → r = some (aI (if 0 ≤ a ∧ a ≤ 127 then -1000004 else -1000002)) ∧ M' = M)) := by
  refine Co.ofV (plainFor_of_name (by decide)) rfl rfl ?_
  intro x hxl hxR hlk hrt Q hQ
  show vO x Q G cX4_append RX4 0 [some (aR (some 110)), some (aI a)] [] M
  refine v_iload_n 1 dX4_append_0 rfl rfl ?_
  refine v_iconst dX4_append_1 ?_
  refine v_bipush dX4_append_2 (by decide) ?_
  refine oSv3 (c_X4_in (by omega) (by decide) (by decide)) k0_X4_in ki_X4_in ml_X4_59 (vRo_of hxR (by decide) (by decide)) dX4_append_4 (Nat.le_of_ble_eq_true rfl) ?_
  refine v_if_ne 13 dX4_append_7 (by decide) (bP_R _) (fun h7 => ?_) (fun h7 => ?_)
  · skip
    have ga := bP_n0.mp h7
    refine v_aload_n 0 dX4_append_13 rfl rfl ?_
    refine o_getI (u := (t : Int)) lk_X4_140 rfl (rfl : SH 110 = _) ht dX4_append_14 ?_
    refine v_bipush dX4_append_17 (by decide) ?_
    refine v_icmp_ne 25 dX4_append_19 (by decide) (by omega) (by decide) (fun h19 => ?_) (fun h19 => ?_)
    · skip
      refine v_aload_n 0 dX4_append_25 rfl rfl ?_
      refine v_getR lk_X4_26 rfl (rfl : SH 110 = _) (mo_6 hLM) dX4_append_26 ?_
      refine v_aload_n 0 dX4_append_29 rfl rfl ?_
      refine o_getI (u := (t : Int)) lk_X4_140 rfl (rfl : SH 110 = _) ht dX4_append_30 ?_
      refine v_iload_n 1 dX4_append_33 rfl rfl ?_
      refine o_iast (j := t) (by omega) (rfl : SH 116 = _) (by omega) (by omega) dX4_append_34 ?_
      refine v_aload_n 0 dX4_append_35 rfl rfl ?_
      refine v_dup dX4_append_36 rfl ?_
      refine o_getI (u := (t : Int)) lk_X4_140 rfl (rfl : SH 110 = _) (by dsimp only; rw [vup_o (by omega), ht]) dX4_append_37 ?_
      refine v_iconst dX4_append_40 ?_
      refine v_iadd dX4_append_41 ?_
      refine v_putI lp_X4_140 rfl rfl (rfl : SH 110 = _) dX4_append_42 ?_
      refine v_aload_n 0 dX4_append_45 rfl rfl ?_
      refine o_getI (u := ((t : Int) + 1)) lk_X4_140 rfl (rfl : SH 110 = _) (by dsimp only; rw [vup_s]) dX4_append_46 ?_
      refine o_iret hQ hlk hrt dX4_append_49 ?_
      exact ⟨fun _ => ⟨rfl, rfl⟩, fun q => absurd ⟨ga, by omega⟩ q⟩
    · skip
      refine v_ldc (-1000004) kc_X4_91 (by decide) dX4_append_22 ?_
      refine o_iret hQ hlk hrt dX4_append_24 ?_
      exact ⟨fun q => absurd (by omega) q.2, fun _ => ⟨by rw [if_pos ga], rfl⟩⟩
  · skip
    have ga := bP_0.mp h7
    refine v_ldc (-1000002) kc_X4_72 (by decide) dX4_append_10 ?_
    refine o_iret hQ hlk hrt dX4_append_12 ?_
    exact ⟨fun q => absurd q.1 ga, fun _ => ⟨by rw [if_neg ga], rfl⟩⟩
set_option maxRecDepth 100000 in
set_option maxHeartbeats 400000 in
theorem c_X4_clearText {l : Launch} {G : vGG} {M : Mem} : Cv l yX4_clearText cX4_clearText 2 (some .int) (rmo 0 0) G [aR (some 110)] M (some (aI (M.1 110 7))) (vup M.1 110 7 0, M.2) := by
  refine Co.ofV (plainFor_of_name (by decide)) rfl rfl ?_
  intro x hxl hxR hlk hrt Q hQ
  show vO x Q G cX4_clearText RX4 0 [some (aR (some 110)), none] [] M
  refine v_aload_n 0 dX4_clearText_0 rfl rfl ?_
  refine v_getI lk_X4_140 rfl (rfl : SH 110 = _) dX4_clearText_1 ?_
  refine v_ist1 dX4_clearText_4 rfl ?_
  refine v_aload_n 0 dX4_clearText_5 rfl rfl ?_
  refine v_iconst dX4_clearText_6 ?_
  refine v_putI lp_X4_140 rfl rfl (rfl : SH 110 = _) dX4_clearText_7 ?_
  refine v_iload_n 1 dX4_clearText_10 rfl rfl ?_
  refine o_iret hQ hlk hrt dX4_clearText_11 ?_
  exact ⟨rfl, rfl⟩
