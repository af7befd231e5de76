/-! ===== the twin: cipher, tune, lowest, undo, save, restore, append, clearText ===== -/
theorem cnt_set {f g : Nat → Bool} {k : Nat} {b : Bool} (h : ∀ j, g j = if j = k then b else f j) : ∀ n, (List.range n).countP g + (if k < n then (f k).toNat else 0) = (List.range n).countP f + (if k < n then b.toNat else 0)
  | 0 => rfl
  | n + 1 => by
    have ih := cnt_set h n
    rw [List.range_succ, List.countP_append, List.countP_append, List.countP_cons, List.countP_cons, List.countP_nil, List.countP_nil]
    by_cases e : n = k
    · subst e
      rw [if_neg (Nat.lt_irrefl n), if_neg (Nat.lt_irrefl n)] at ih
      rw [if_pos (Nat.lt_succ_self n), if_pos (Nat.lt_succ_self n)]
      have hg : g n = b := by rw [h n, if_pos rfl]
      rw [hg]
      cases hf : f n <;> cases b <;> simp <;> omega
    · have hg : g n = f n := by rw [h n, if_neg e]
      rw [hg]
      by_cases hk : k < n
      · rw [if_pos hk, if_pos hk] at ih
        rw [if_pos (show k < n + 1 by omega), if_pos (show k < n + 1 by omega)]
        omega
      · rw [if_neg hk, if_neg hk] at ih
        rw [if_neg (show ¬ k < n + 1 by omega), if_neg (show ¬ k < n + 1 by omega)]
        omega
theorem cnt_congr {f g : Nat → Bool} : ∀ n, (∀ j, j < n → g j = f j) → (List.range n).countP g = (List.range n).countP f
  | 0, _ => rfl
  | n + 1, h => by
    rw [List.range_succ, List.countP_append, List.countP_append, List.countP_cons, List.countP_cons, List.countP_nil, List.countP_nil, h n (by omega), cnt_congr n (fun j hj => h j (by omega))]
theorem pc_wth {z k : Nat} (b : Bool) (hk : k < 24) : pc (wth z k b) + (z.testBit k).toNat = pc z + b.toNat := by
  have h := cnt_set (f := fun i => z.testBit i) (g := fun j => if j = k then b else z.testBit j) (k := k) (b := b) (fun j => rfl) 24
  rw [if_pos hk, if_pos hk] at h
  rw [pc, pc, pcf_bits, pcf_bits, cnt_congr (f := fun j => if j = k then b else z.testBit j) 24 (fun j hj => wth_bit b (by omega) j (by omega))]
  exact h
theorem sCi_sup (v : Sg) (s : Nat) (z : Int) : ∀ t, sCi (sup v (256 + s) z) t + (if s < t then pc (v (256 + s)).toNat else 0) = sCi v t + (if s < t then pc z.toNat else 0)
  | 0 => by rw [if_neg (Nat.not_lt_zero s), if_neg (Nat.not_lt_zero s)]; rfl
  | t + 1 => by
    have ih := sCi_sup v s z t
    rw [sCi, sCi]
    by_cases e : t = s
    · subst e
      rw [if_neg (Nat.lt_irrefl t), if_neg (Nat.lt_irrefl t)] at ih
      rw [if_pos (Nat.lt_succ_self t), if_pos (Nat.lt_succ_self t), sup_eq]
      omega
    · rw [sup_ne _ _ (show 256 + t ≠ 256 + s by omega)]
      by_cases hk : s < t
      · rw [if_pos hk, if_pos hk] at ih
        rw [if_pos (show s < t + 1 by omega), if_pos (show s < t + 1 by omega)]
        omega
      · rw [if_neg hk, if_neg hk] at ih
        rw [if_neg (show ¬ s < t + 1 by omega), if_neg (show ¬ s < t + 1 by omega)]
        omega
theorem cip_inv {v : Sg} (hI : sInv v) {s k : Nat} {on : Int} (hs : s < 8) (hk : k < 24) (hg : ¬ (on ≠ 0 ∧ bt (v (256 + s)) k = false ∧ sCi v 8 = 6)) : sInv (sCip v s k on) := by
  have hb := (iv_st hI hs).2.2.2.2
  have hlt := wth_lt (s := (v (256 + s)).toNat) (decide (on ≠ 0)) (by omega) hk
  have hcc := sCi_sup v s ((wth (v (256 + s)).toNat k (decide (on ≠ 0)) : Nat) : Int) 8
  have hpc := pc_wth (z := (v (256 + s)).toNat) (decide (on ≠ 0)) hk
  rw [if_pos hs, if_pos hs, Int.toNat_natCast] at hcc
  obtain ⟨h1, h2, h3, h4, h5, h6⟩ := hI
  have e : ∀ i, i ≠ 256 + s → sCip v s k on i = v i := fun i hi => sup_ne _ _ hi
  refine ⟨fun t ht => ?_, ?_, fun p hp => by rw [e _ (by omega)]; exact h3 p hp, ?_, ?_, ?_⟩
  · have := h1 t ht
    rw [e _ (by omega), e (24 + 5 * t + 1) (by omega), e (24 + 5 * t + 2) (by omega), e (24 + 5 * t + 3) (by omega)]
    refine ⟨this.1, this.2.1, this.2.2.1, this.2.2.2.1, ?_⟩
    by_cases ht2 : t = s
    · subst ht2
      rw [sCip, sup_eq]
      omega
    · rw [e _ (by omega)]
      exact this.2.2.2.2
  · have h7 : sCi (sCip v s k on) 8 + ((v (256 + s)).toNat.testBit k).toNat = sCi v 8 + (decide (on ≠ 0)).toNat := by
      rw [sCip]
      omega
    by_cases ho : on ≠ 0
    · cases hbit : (v (256 + s)).toNat.testBit k with
      | true => rw [hbit, decide_eq_true ho] at h7; omega
      | false =>
        have : ¬ sCi v 8 = 6 := fun q => hg ⟨ho, hbit, q⟩
        rw [hbit, decide_eq_true ho] at h7
        simp at h7
        omega
    · rw [decide_eq_false ho] at h7
      simp at h7
      omega
  · rw [e 1 (by omega), e 2 (by omega), e 3 (by omega), e 4 (by omega), e 5 (by omega), e 6 (by omega), e 7 (by omega), e 8 (by omega), e 9 (by omega)]
    exact h4
  · rw [e 10 (by omega), e 11 (by omega), e 12 (by omega)]
    exact h5
  · rw [e 0 (by omega), e 17 (by omega), e 20 (by omega), e 21 (by omega), e 22 (by omega), e 23 (by omega)]
    exact h6
theorem w_nn (s k : Nat) (b : Bool) : R32 0 := by decide
set_option maxRecDepth 100000 in
set_option maxHeartbeats 400000 in
theorem c_X4_cipher {l : Launch} {G : vGG} {M : Mem} {v : Sg} (hLM : LayM M.2) (hv : M.1 111 = v) (hI : sInv v) {n : Nat} (hn : M.1 110 3 = (n : Int)) (h5 : n ≤ 5) {a b on : Int} (ha : R32 a) (hb : R32 b) (ho : R32 on) : Co l yX4_cipher cX4_cipher 5 (some .int) (rmo 2 44) G [aR (some 110), aI a, aI b, aI on] M (oPost n v M (gCip v a b on) (((sCi (sCip v a.toNat b.toNat on) 8 : Nat) : Int)) (eSK a b (-1000004)) (sCip v a.toNat b.toNat on)) := by
  refine Co.ofV (plainFor_of_name (by decide)) rfl rfl ?_
  intro x hxl hxR hlk hrt Q hQ
  show vO x Q G cX4_cipher RX4 0 [some (aR (some 110)), some (aI a), some (aI b), some (aI on), none] [] M
  refine v_iload_n 1 dX4_cipher_0 rfl rfl ?_
  refine oSv1 (c_X4_isStop (by omega)) k0_X4_isStop ki_X4_isStop ml_X4_67 (vRo_of hxR (by decide) (by decide)) dX4_cipher_1 (Nat.le_of_ble_eq_true rfl) ?_
  refine v_if_eq 14 dX4_cipher_4 (by decide) (bP_R _) (fun h4 => ?_) (fun h4 => ?_)
  · skip
    have ga := bP_0.mp h4
    refine v_ldc (-1000001) kc_X4_71 (by decide) dX4_cipher_14 ?_
    refine o_iret hQ hlk hrt dX4_cipher_16 ?_
    first | exact oPost.n (fun q => ga q.1.1) (by rw [eSK, if_neg (fun q => ga q.1)]) | exact oPost.n (fun q => gb q.1.2) (by rw [eSK, if_neg (fun q => gb q.2)])
  · skip
    have ga := bP_n0.mp h4
    obtain ⟨s, rfl⟩ : ∃ s : Nat, a = ((s : Nat) : Int) := ⟨(a).toNat, by omega⟩
    refine v_iload_n 2 dX4_cipher_7 rfl rfl ?_
    refine oSv1 (c_X4_isKey (by omega)) k0_X4_isKey ki_X4_isKey ml_X4_84 (vRo_of hxR (by decide) (by decide)) dX4_cipher_8 (Nat.le_of_ble_eq_true rfl) ?_
    refine v_if_ne 17 dX4_cipher_11 (by decide) (bP_R _) (fun h11 => ?_) (fun h11 => ?_)
    · skip
      have gb := bP_n0.mp h11
      obtain ⟨k, rfl⟩ : ∃ k : Nat, b = ((k : Nat) : Int) := ⟨(b).toNat, by omega⟩
      refine v_aload_n 0 dX4_cipher_17 rfl rfl ?_
      refine v_getR lk_X4_7 rfl (rfl : SH 110 = _) (mo_0 hLM) dX4_cipher_18 ?_
      refine v_sipush dX4_cipher_21 (by decide) ?_
      refine v_iload_n 1 dX4_cipher_24 rfl rfl ?_
      refine v_iadd dX4_cipher_25 ?_
      have hvb := (iv_st hI (show s < 8 by omega)).2.2.2.2
      have hci := iv_ci hI
      refine o_iald (j := 256 + s) (u := v (256 + s)) (rfl : SH 111 = _) (by omega) (by omega) (by rw [hv]) dX4_cipher_26 ?_
      refine v_iload_n 2 dX4_cipher_27 rfl rfl ?_
      refine v_ishr dX4_cipher_28 ?_
      refine v_iconst dX4_cipher_29 ?_
      refine v_iand dX4_cipher_30 ?_
      refine o_eqI (nu_bit (z := v (256 + s)) (k := k) hvb.1 (by omega) (by omega)) ?_
      refine v_iconst dX4_cipher_31 ?_
      have jn40 : ∀ z : Int, z = bP ((bt (v (256 + s)) k) = true) → vO x Q G cX4_cipher RX4 40 [some (aR (some 110)), some (aI (s : Int)), some (aI (k : Int)), some (aI on), none] [aI z] M := by
        intro z hz
        subst hz
        refine v_ist4 dX4_cipher_40 rfl ?_
        refine v_iload_n 3 dX4_cipher_42 rfl rfl ?_
        have jn63 : (hg : ¬ (on ≠ 0 ∧ (bt (v (256 + s)) k) = false ∧ sCi v 8 = 6)) → vO x Q G cX4_cipher RX4 63 [some (aR (some 110)), some (aI (s : Int)), some (aI (k : Int)), some (aI on), some (aI (bP ((bt (v (256 + s)) k) = true)))] [] M := by
          intro hg
          have hI2 := cip_inv hI (show s < 8 by omega) (show k < 24 by omega) hg
          refine v_aload_n 0 dX4_cipher_63 rfl rfl ?_
          refine oVm0 4 (c_X4_records hLM hv hn h5) k0_X4_records ki_X4_records ml_X4_73 (rfl : SH 110 = _) (by decide) (vRo_of hxR (by decide) (by decide)) dX4_cipher_64 (Nat.le_of_ble_eq_true rfl) (fun N hN => ?_)
          have hR := hN
          have hLN := hR.lay hLM
          have hvN : N.1 111 = v := (hR.at (by decide) (by decide)).trans hv
          have hF : fr mL N N := fr_rf
          refine v_aload_n 0 dX4_cipher_67 rfl rfl ?_
          refine v_getR lk_X4_7 rfl (rfl : SH 110 = _) (mo_0 hLN) dX4_cipher_68 ?_
          refine v_sipush dX4_cipher_71 (by decide) ?_
          refine v_iload_n 1 dX4_cipher_74 rfl rfl ?_
          refine v_iadd dX4_cipher_75 ?_
          refine v_aload_n 0 dX4_cipher_76 rfl rfl ?_
          refine v_getR lk_X4_7 rfl (rfl : SH 110 = _) (mo_0 hLN) dX4_cipher_77 ?_
          refine v_sipush dX4_cipher_80 (by decide) ?_
          refine v_iload_n 1 dX4_cipher_83 rfl rfl ?_
          refine v_iadd dX4_cipher_84 ?_
          refine o_iald (j := 256 + s) (u := v (256 + s)) (rfl : SH 111 = _) (by omega) (by omega) (by rw [hvN]) dX4_cipher_85 ?_
          refine v_iload_n 2 dX4_cipher_86 rfl rfl ?_
          refine v_iload_n 3 dX4_cipher_87 rfl rfl ?_
          refine oSv3 (c_X4_with hvb.1 (by omega) (by omega) ho) k0_X4_with ki_X4_with ml_X4_92 (vRo_of hxR (by decide) (by decide)) dX4_cipher_88 (Nat.le_of_ble_eq_true rfl) ?_
          refine o_iast (j := 256 + s) (by omega) (rfl : SH 111 = _) (by omega) (by omega) dX4_cipher_91 ?_
          refine o_gw hF (by decide) hvN (fun K hF hvN he => ?_)
          have hLN := fr_lay hF (hR.lay hLM)
          refine v_aload_n 0 dX4_cipher_92 rfl rfl ?_
          refine oVv0 4 (c_X4_ciphersAll hLN hvN hI2) k0_X4_ciphersAll ki_X4_ciphersAll ml_X4_87 (rfl : SH 110 = _) (by decide) (vRo_of hxR (by decide) (by decide)) dX4_cipher_93 (Nat.le_of_ble_eq_true rfl) ?_
          refine o_iret hQ hlk hrt dX4_cipher_96 ?_
          exact oPost.y ⟨⟨ga, gb⟩, hg⟩ rfl hR hF hvN rfl
        refine v_if_eq 63 dX4_cipher_43 (by decide) ho (fun h43 => ?_) (fun h43 => ?_)
        · skip
          first | exact jn63 (fun q => q.1 h43) | exact jn63 (fun q => by have := bP_n0.mp h48; rw [q.2.1] at this; cases this) | exact jn63 (fun q => h57 (by have := q.2.2; omega))
        · skip
          refine v_iload dX4_cipher_46 rfl ?_
          refine v_if_ne 63 dX4_cipher_48 (by decide) (bP_R _) (fun h48 => ?_) (fun h48 => ?_)
          · skip
            first | exact jn63 (fun q => q.1 h43) | exact jn63 (fun q => by have := bP_n0.mp h48; rw [q.2.1] at this; cases this) | exact jn63 (fun q => h57 (by have := q.2.2; omega))
          · skip
            refine v_aload_n 0 dX4_cipher_51 rfl rfl ?_
            refine oVv0 4 (c_X4_ciphersAll hLM hv hI) k0_X4_ciphersAll ki_X4_ciphersAll ml_X4_87 (rfl : SH 110 = _) (by decide) (vRo_of hxR (by decide) (by decide)) dX4_cipher_52 (Nat.le_of_ble_eq_true rfl) ?_
            refine v_bipush dX4_cipher_55 (by decide) ?_
            refine v_icmp_ne 63 dX4_cipher_57 (by decide) (by omega) (by decide) (fun h57 => ?_) (fun h57 => ?_)
            · skip
              first | exact jn63 (fun q => q.1 h43) | exact jn63 (fun q => by have := bP_n0.mp h48; rw [q.2.1] at this; cases this) | exact jn63 (fun q => h57 (by have := q.2.2; omega))
            · skip
              refine v_ldc (-1000004) kc_X4_91 (by decide) dX4_cipher_60 ?_
              refine o_iret hQ hlk hrt dX4_cipher_62 ?_
              exact oPost.n (fun q => q.2 ⟨h43, by simpa using bP_0.mp h48, by omega⟩) (by rw [eSK, if_pos ⟨ga, gb⟩])
      refine v_icmp_ne 39 dX4_cipher_32 (by decide) (bP_R _) (by decide) (fun h32 => ?_) (fun h32 => ?_)
      · skip
        refine v_iconst dX4_cipher_39 ?_
        first | exact jn40 _ (bP_f (mt bP_1.mpr h32)).symm | exact jn40 _ (bP_t (bP_1.mp h32)).symm
      · skip
        refine v_iconst dX4_cipher_35 ?_
        refine v_goto 40 dX4_cipher_36 (by decide) ?_
        first | exact jn40 _ (bP_f (mt bP_1.mpr h32)).symm | exact jn40 _ (bP_t (bP_1.mp h32)).symm
    · skip
      have gb := bP_0.mp h11
      refine v_ldc (-1000001) kc_X4_71 (by decide) dX4_cipher_14 ?_
      refine o_iret hQ hlk hrt dX4_cipher_16 ?_
      first | exact oPost.n (fun q => ga q.1.1) (by rw [eSK, if_neg (fun q => ga q.1)]) | exact oPost.n (fun q => gb q.1.2) (by rw [eSK, if_neg (fun q => gb q.2)])
def oPostQ (n : Nat) (v : Sg) (M : Mem) (good : Prop) (ans err : Int) (w : Sg) (r : Option AV) (M' : Mem) : Prop := (good ∧ r = some (aI ans) ∧ ∃ M0 K : Mem, fr [120, 121, 122, 123, 124, 125] M M0 ∧ mRec n v M0 K ∧ fr mL K M' ∧ M'.1 111 = w) ∨ (¬ good ∧ r = some (aI err) ∧ fr [120, 121, 122, 123, 124, 125] M M')
set_option maxRecDepth 100000 in
set_option maxHeartbeats 400000 in
theorem c_X4_tune {l : Launch} {G : vGG} {M : Mem} {v : Sg} (hLM : LayM M.2) (hv : M.1 111 = v) (hI : sInv v) {n : Nat} (hn : M.1 110 3 = (n : Int)) (h5 : n ≤ 5) {a b : Int} (ha : R32 a) (hb : R32 b) : Co l yX4_tune cX4_tune 3 (some .int) (rmo 4 92) G [aR (some 110), aI a, aI b] M (oPostQ n v M (gTun v a b) (v (64 + 24 * a.toNat + b.toNat)) (eSK a b (-1000003)) (sTun v a.toNat b.toNat)) := by
  refine Co.ofV (plainFor_of_name (by decide)) rfl rfl ?_
  intro x hxl hxR hlk hrt Q hQ
  show vO x Q G cX4_tune RX4 0 [some (aR (some 110)), some (aI a), some (aI b)] [] M
  refine v_iload_n 1 dX4_tune_0 rfl rfl ?_
  refine oSv1 (c_X4_isStop (by omega)) k0_X4_isStop ki_X4_isStop ml_X4_67 (vRo_of hxR (by decide) (by decide)) dX4_tune_1 (Nat.le_of_ble_eq_true rfl) ?_
  refine v_if_eq 14 dX4_tune_4 (by decide) (bP_R _) (fun h4 => ?_) (fun h4 => ?_)
  · skip
    have ga := bP_0.mp h4
    refine v_ldc (-1000001) kc_X4_71 (by decide) dX4_tune_14 ?_
    refine o_iret hQ hlk hrt dX4_tune_16 ?_
    first | exact .inr ⟨fun q => ga q.1.1, by rw [eSK, if_neg (fun q => ga q.1)], fr_rf⟩ | exact .inr ⟨fun q => gb q.1.2, by rw [eSK, if_neg (fun q => gb q.2)], fr_rf⟩
  · skip
    have ga := bP_n0.mp h4
    obtain ⟨s, rfl⟩ : ∃ s : Nat, a = ((s : Nat) : Int) := ⟨(a).toNat, by omega⟩
    refine v_iload_n 2 dX4_tune_7 rfl rfl ?_
    refine oSv1 (c_X4_isKey (by omega)) k0_X4_isKey ki_X4_isKey ml_X4_84 (vRo_of hxR (by decide) (by decide)) dX4_tune_8 (Nat.le_of_ble_eq_true rfl) ?_
    refine v_if_ne 17 dX4_tune_11 (by decide) (bP_R _) (fun h11 => ?_) (fun h11 => ?_)
    · skip
      have gb := bP_n0.mp h11
      obtain ⟨k, rfl⟩ : ∃ k : Nat, b = ((k : Nat) : Int) := ⟨(b).toNat, by omega⟩
      refine v_aload_n 0 dX4_tune_17 rfl rfl ?_
      refine v_iload_n 1 dX4_tune_18 rfl rfl ?_
      refine v_iload_n 2 dX4_tune_19 rfl rfl ?_
      refine oVq2 4 (c_X4_reasonNow hLM hv hI (by omega) (by omega)) k0_X4_reasonNow ki_X4_reasonNow ml_X4_201 (rfl : SH 110 = _) (by decide) (vRo_of hxR (by decide) (by decide)) dX4_tune_20 (Nat.le_of_ble_eq_true rfl) (fun N hN => ?_)
      obtain ⟨hF0, hC⟩ := hN
      have hLN := fr_lay hF0 hLM
      have hvN : N.1 111 = v := (hF0.2 111 (by decide)).trans hv
      have hst := sDrw_lt hI
      have hrb := sRs_b v (sDrw v) true s k
      have hbb := sBend_b hI (sDrw v) true (show s < 8 by omega)
      refine v_if_ne 44 dX4_tune_23 (by decide) (by omega) (fun h23 => ?_) (fun h23 => ?_)
      · skip
        refine v_ldc (-1000003) kc_X4_178 (by decide) dX4_tune_44 ?_
        refine o_iret hQ hlk hrt dX4_tune_46 ?_
        first | exact .inr ⟨fun q => gc q.2.2, by rw [eSK, if_pos ⟨ga, gb⟩], hF0⟩ | exact .inr ⟨fun q => h23 q.2.1, by rw [eSK, if_pos ⟨ga, gb⟩], hF0⟩
      · skip
        refine v_aload_n 0 dX4_tune_26 rfl rfl ?_
        refine v_iload_n 1 dX4_tune_27 rfl rfl ?_
        refine oVv1 4 (c_X4_bend hLN hvN hI hC hst (by omega)) k0_X4_bend ki_X4_bend ml_X4_125 (rfl : SH 110 = _) (by decide) (vRo_of hxR (by decide) (by decide)) dX4_tune_28 (Nat.le_of_ble_eq_true rfl) ?_
        refine v_ineg dX4_tune_31 ?_
        refine v_sipush dX4_tune_32 (by decide) ?_
        refine v_sipush dX4_tune_35 (by decide) ?_
        refine oSv3 (c_X4_in (by omega) (by decide) (by decide)) k0_X4_in ki_X4_in ml_X4_59 (vRo_of hxR (by decide) (by decide)) dX4_tune_38 (Nat.le_of_ble_eq_true rfl) ?_
        refine v_if_ne 47 dX4_tune_41 (by decide) (bP_R _) (fun h41 => ?_) (fun h41 => ?_)
        · skip
          have gc := bP_n0.mp h41
          refine v_aload_n 0 dX4_tune_47 rfl rfl ?_
          refine oVm0 4 (c_X4_records hLN hvN (by rw [hF0.2 110 (by decide)]; exact hn) h5) k0_X4_records ki_X4_records ml_X4_73 (rfl : SH 110 = _) (by decide) (vRo_of hxR (by decide) (by decide)) dX4_tune_48 (Nat.le_of_ble_eq_true rfl) (fun N hN => ?_)
          have hR := hN
          have hLR := hR.lay (fr_lay hF0 hLM)
          have hLN := hLR
          have hvN : N.1 111 = v := (hR.at (by decide) (by decide)).trans hvN
          have hF : fr mL N N := fr_rf
          have hC : SC v (sDrw v) true N := hC.keep (fun i h1 h2 => hR.at (by omega) (by omega))
          refine v_aload_n 0 dX4_tune_51 rfl rfl ?_
          refine v_bipush dX4_tune_52 (by decide) ?_
          refine v_bipush dX4_tune_54 (by decide) ?_
          refine v_iload_n 1 dX4_tune_56 rfl rfl ?_
          refine v_imul dX4_tune_57 ?_
          refine v_iadd dX4_tune_58 ?_
          refine v_iload_n 2 dX4_tune_59 rfl rfl ?_
          refine v_iadd dX4_tune_60 ?_
          refine v_aload_n 0 dX4_tune_61 rfl rfl ?_
          refine v_iload_n 1 dX4_tune_62 rfl rfl ?_
          refine oVv1 4 (c_X4_bend hLN hvN hI hC hst (by omega)) k0_X4_bend ki_X4_bend ml_X4_125 (rfl : SH 110 = _) (by decide) (vRo_of hxR (by decide) (by decide)) dX4_tune_63 (Nat.le_of_ble_eq_true rfl) ?_
          refine v_ineg dX4_tune_66 ?_
          refine oVv2 4 (c_X4_puts (j := 64 + 24 * s + k) hLN (by omega)) k0_X4_puts ki_X4_puts ml_X4_76 (rfl : SH 110 = _) (by decide) (vRo_of hxR (by decide) (by decide)) dX4_tune_67 (Nat.le_of_ble_eq_true rfl) ?_
          have hv67 := hvN
          refine o_gw hF (by decide) hvN (fun K hF hvN he => ?_)
          have hLN := fr_lay hF hLR
          refine o_iret hQ hlk hrt dX4_tune_70 ?_
          exact .inl ⟨⟨⟨ga, gb⟩, h23, gc⟩, by rw [hv67]; rfl, _, _, hF0, hR, hF, hvN⟩
        · skip
          have gc := bP_0.mp h41
          refine v_ldc (-1000003) kc_X4_178 (by decide) dX4_tune_44 ?_
          refine o_iret hQ hlk hrt dX4_tune_46 ?_
          first | exact .inr ⟨fun q => gc q.2.2, by rw [eSK, if_pos ⟨ga, gb⟩], hF0⟩ | exact .inr ⟨fun q => h23 q.2.1, by rw [eSK, if_pos ⟨ga, gb⟩], hF0⟩
    · skip
      have gb := bP_0.mp h11
      refine v_ldc (-1000001) kc_X4_71 (by decide) dX4_tune_14 ?_
      refine o_iret hQ hlk hrt dX4_tune_16 ?_
      first | exact .inr ⟨fun q => ga q.1.1, by rw [eSK, if_neg (fun q => ga q.1)], fr_rf⟩ | exact .inr ⟨fun q => gb q.1.2, by rw [eSK, if_neg (fun q => gb q.2)], fr_rf⟩
def sLw (v : Sg) : Nat → Int
  | 0 => 1000000
  | n + 1 => min (sLw v n) (sTks v (n + 1) 0)
def aLow (v : Sg) (a : Int) : Int := if 1 ≤ a ∧ a ≤ 1000 then sLw v a.toNat else -1000002
theorem sTks_add (v : Sg) (a : Nat) : ∀ b, sTks (sTks v a) b = sTks v (a + b)
  | 0 => rfl
  | b + 1 => by rw [sTks, sTks_add v a b]; rfl
theorem sTks_v0 {v : Sg} (h : sInv v) (n : Nat) : 0 ≤ sTks v n 0 ∧ sTks v n 0 ≤ 20000 := (iv_bel (sTks_inv h n)).1
theorem sTks_same {v : Sg} (h : sInv v) : ∀ n, sSame v (sTks v n)
  | 0 => sSame.rf v
  | n + 1 => (sTks_same h n).tr (sTick_same (sTks_inv h n))
theorem sLw_b {v : Sg} (h : sInv v) : ∀ n, 0 < n → 0 ≤ sLw v n ∧ sLw v n ≤ 20000
  | 0, q => absurd q (by omega)
  | n + 1, _ => by
    have h1 := sTks_v0 h (n + 1)
    rw [sLw]
    cases n with
    | zero => rw [sLw]; omega
    | succ n => have := sLw_b h (n + 1) (by omega); omega
set_option maxRecDepth 100000 in
set_option maxHeartbeats 400000 in
theorem c_X4_lowest {l : Launch} {G : vGG} {M : Mem} {v : Sg} (hLM : LayM M.2) (hv : M.1 111 = v) (hI : sInv v) {a : Int} (ha : R32 a) : Co l yX4_lowest cX4_lowest 5 (some .int) (rmo 5 114) G [aR (some 110), aI a] M (fun r M' => r = some (aI (aLow v a)) ∧ fr [111, 112, 120, 121, 122, 123, 124, 125] M M' ∧ M'.1 111 = v) := by
  refine Co.ofV (plainFor_of_name (by decide)) rfl rfl ?_
  intro x hxl hxR hlk hrt Q hQ
  show vO x Q G cX4_lowest RX4 0 [some (aR (some 110)), some (aI a), none, none, none] [] M
  refine v_iload_n 1 dX4_lowest_0 rfl rfl ?_
  refine v_iconst dX4_lowest_1 ?_
  refine v_sipush dX4_lowest_2 (by decide) ?_
  refine oSv3 (c_X4_in (by omega) (by decide) (by decide)) k0_X4_in ki_X4_in ml_X4_59 (vRo_of hxR (by decide) (by decide)) dX4_lowest_5 (Nat.le_of_ble_eq_true rfl) ?_
  refine v_if_ne 14 dX4_lowest_8 (by decide) (bP_R _) (fun h8 => ?_) (fun h8 => ?_)
  · skip
    have ga := bP_n0.mp h8
    obtain ⟨s, rfl⟩ : ∃ s : Nat, a = ((s : Nat) : Int) := ⟨(a).toNat, by omega⟩
    refine v_iconst dX4_lowest_14 ?_
    refine v_ist2 dX4_lowest_15 rfl ?_
    have lp16 : ∀ (dd k : Nat) (K : Mem), k + dd = 264 → fr [111, 112, 120, 121, 122, 123, 124, 125] M K → K.1 111 = v → (∀ q, q < k → K.1 112 q = v q) → vO x Q G cX4_lowest RX4 16 [some (aR (some 110)), some (aI (s : Int)), some (aI (k : Int)), none, none] [] K := by
      intro dd
      induction dd with
      | zero =>
        intro k K hd hF hvK hq
        obtain rfl : k = 264 := by omega
        have hLK := fr_lay hF hLM
        refine v_iload_n 2 dX4_lowest_16 rfl rfl ?_
        refine v_sipush dX4_lowest_17 (by decide) ?_
        refine v_icmp_ge 41 dX4_lowest_20 (by decide) (by omega) (by decide) (fun h20 => ?_) (fun h20 => ?_)
        · skip
          refine v_aload_n 0 dX4_lowest_41 rfl rfl ?_
          refine v_iconst dX4_lowest_42 ?_
          refine oVq1 4 (c_X4_passes (n := 1) hLK hvK hI (by decide)) k0_X4_passes ki_X4_passes ml_X4_137 (rfl : SH 110 = _) (by decide) (vRo_of hxR (by decide) (by decide)) dX4_lowest_43 (Nat.le_of_ble_eq_true rfl) (fun N hN => ?_)
          obtain ⟨hF2, hv2⟩ := hN
          have hq : ∀ q, q < 264 → N.1 112 q = v q := fun q h => by rw [hF2.2 112 (by decide)]; exact hq q h
          have hF := fr_tr hF hF2 (by decide)
          have hvK := hv2
          have hw := sTks_v0 hI 1
          refine o_eqI (u := sLw v 1) (by show sTks v 1 0 = min 1000000 (sTks v 1 0); omega) ?_
          refine v_ist2 dX4_lowest_46 rfl ?_
          refine v_iconst dX4_lowest_47 ?_
          refine v_ist3 dX4_lowest_48 rfl ?_
          have lp49 : ∀ (dd k : Nat) (K : Mem) (c4 : Option AV), k + dd = s → 0 < k → fr [111, 112, 120, 121, 122, 123, 124, 125] M K → K.1 111 = sTks v k → (∀ q, q < 264 → K.1 112 q = v q) → vO x Q G cX4_lowest RX4 49 [some (aR (some 110)), some (aI (s : Int)), some (aI (sLw v k)), some (aI (k : Int)), c4] [] K := by
            intro dd
            induction dd with
            | zero =>
              intro k K c4 hd hk0 hF hvK hq
              obtain rfl : s = k := by omega
              have hLK := fr_lay hF hLM
              refine v_iload_n 3 dX4_lowest_49 rfl rfl ?_
              refine v_iload_n 1 dX4_lowest_50 rfl rfl ?_
              refine v_icmp_ge 80 dX4_lowest_51 (by decide) (by omega) (by omega) (fun h51 => ?_) (fun h51 => ?_)
              · skip
                refine v_iconst dX4_lowest_80 ?_
                refine v_ist3 dX4_lowest_81 rfl ?_
                have lp82 : ∀ (dd k : Nat) (K : Mem) (c4 : Option AV), k + dd = 264 → fr [111, 112, 120, 121, 122, 123, 124, 125] M K → (∀ q, q < k → K.1 111 q = v q) → (∀ q, 264 ≤ q → K.1 111 q = v q) → (∀ q, q < 264 → K.1 112 q = v q) → vO x Q G cX4_lowest RX4 82 [some (aR (some 110)), some (aI (s : Int)), some (aI (sLw v s)), some (aI (k : Int)), c4] [] K := by
                  intro dd
                  induction dd with
                  | zero =>
                    intro k K c4 hd hF hq1 hq2 hq
                    obtain rfl : k = 264 := by omega
                    have hLK := fr_lay hF hLM
                    refine v_iload_n 3 dX4_lowest_82 rfl rfl ?_
                    refine v_sipush dX4_lowest_83 (by decide) ?_
                    refine v_icmp_ge 107 dX4_lowest_86 (by decide) (by omega) (by decide) (fun h86 => ?_) (fun h86 => ?_)
                    · skip
                      refine v_iload_n 2 dX4_lowest_107 rfl rfl ?_
                      refine o_iret hQ hlk hrt dX4_lowest_108 ?_
                      exact ⟨by rw [aLow, if_pos ga]; rfl, hF, by funext q; by_cases h : q < 264; exact hq1 q h; exact hq2 q (by omega)⟩
                    · skip
                      exact absurd h86 (by omega)
                  | succ dd ih =>
                    intro k K c4 hd hF hq1 hq2 hq
                    have hLK := fr_lay hF hLM
                    refine v_iload_n 3 dX4_lowest_82 rfl rfl ?_
                    refine v_sipush dX4_lowest_83 (by decide) ?_
                    refine v_icmp_ge 107 dX4_lowest_86 (by decide) (by omega) (by decide) (fun h86 => ?_) (fun h86 => ?_)
                    · skip
                      exact absurd h86 (by omega)
                    · skip
                      refine v_aload_n 0 dX4_lowest_89 rfl rfl ?_
                      refine v_getR lk_X4_7 rfl (rfl : SH 110 = _) (mo_0 hLK) dX4_lowest_90 ?_
                      refine v_iload_n 3 dX4_lowest_93 rfl rfl ?_
                      refine v_aload_n 0 dX4_lowest_94 rfl rfl ?_
                      refine v_getR lk_X4_13 rfl (rfl : SH 110 = _) (mo_1 hLK) dX4_lowest_95 ?_
                      refine v_iload_n 3 dX4_lowest_98 rfl rfl ?_
                      refine o_iald (j := k) (u := v (k)) (rfl : SH 112 = _) (by omega) (by omega) (hq _ (by omega)) dX4_lowest_99 ?_
                      refine o_iast (j := k) (by omega) (rfl : SH 111 = _) (by omega) (by omega) dX4_lowest_100 ?_
                      refine v_iinc3 dX4_lowest_101 rfl ?_
                      refine v_goto 82 dX4_lowest_104 (by decide) ?_
                      exact ih (k + 1) _ _ (by omega) (fr_up hF (by decide) _ _) (fun q h => by dsimp only; rw [vup_in]; split <;> rename_i e <;> first | exact hq1 q (by omega) | rw [show q = k by omega]) (fun q h => by dsimp only; rw [vup_o (by omega)]; exact hq2 q h) (fun q h => by dsimp only; rw [vup_o (by omega)]; exact hq q h)
                exact lp82 264 0 _ _ rfl hF (fun q h => absurd h (by omega)) (fun q h => by rw [hvK]; exact sTks_same hI s q (by unfold sK; omega)) hq
              · skip
                exact absurd h51 (by omega)
            | succ dd ih =>
              intro k K c4 hd hk0 hF hvK hq
              have hLK := fr_lay hF hLM
              refine v_iload_n 3 dX4_lowest_49 rfl rfl ?_
              refine v_iload_n 1 dX4_lowest_50 rfl rfl ?_
              refine v_icmp_ge 80 dX4_lowest_51 (by decide) (by omega) (by omega) (fun h51 => ?_) (fun h51 => ?_)
              · skip
                exact absurd h51 (by omega)
              · skip
                refine v_aload_n 0 dX4_lowest_54 rfl rfl ?_
                refine v_iconst dX4_lowest_55 ?_
                refine oVq1 4 (c_X4_passes (n := 1) hLK hvK (sTks_inv hI k) (by decide)) k0_X4_passes ki_X4_passes ml_X4_137 (rfl : SH 110 = _) (by decide) (vRo_of hxR (by decide) (by decide)) dX4_lowest_56 (Nat.le_of_ble_eq_true rfl) (fun N hN => ?_)
                obtain ⟨hF2, hv2⟩ := hN
                rw [sTks_add] at hv2
                have hq : ∀ q, q < 264 → N.1 112 q = v q := fun q h => by rw [hF2.2 112 (by decide)]; exact hq q h
                have hF := fr_tr hF hF2 (by decide)
                have hvK := hv2
                have hw := sTks_v0 hI (k + 1)
                have hlb := sLw_b hI k hk0
                refine o_eqI (u := sTks v (k + 1) 0) (by rw [sTks_add]) ?_
                refine v_ist4 dX4_lowest_59 rfl ?_
                refine v_iload dX4_lowest_61 rfl ?_
                refine v_iload_n 2 dX4_lowest_63 rfl rfl ?_
                refine v_icmp_ge 72 dX4_lowest_64 (by decide) (by omega) (by omega) (fun h64 => ?_) (fun h64 => ?_)
                · skip
                  refine v_iload_n 2 dX4_lowest_72 rfl rfl ?_
                  refine o_eqI (u := sLw v (k + 1)) (by rw [sLw]; omega) ?_
                  refine v_ist2 dX4_lowest_73 rfl ?_
                  refine v_iinc3 dX4_lowest_74 rfl ?_
                  refine v_goto 49 dX4_lowest_77 (by decide) ?_
                  first | exact ih (k + 1) _ _ (by omega) (by omega) hF hvK hq
                · skip
                  refine v_iload dX4_lowest_67 rfl ?_
                  refine v_goto 73 dX4_lowest_69 (by decide) ?_
                  refine o_eqI (u := sLw v (k + 1)) (by rw [sLw]; omega) ?_
                  refine v_ist2 dX4_lowest_73 rfl ?_
                  refine v_iinc3 dX4_lowest_74 rfl ?_
                  refine v_goto 49 dX4_lowest_77 (by decide) ?_
                  first | exact ih (k + 1) _ _ (by omega) (by omega) hF hvK hq
          exact lp49 (s - 1) 1 _ _ (by omega) (by decide) hF hvK hq
        · skip
          exact absurd h20 (by omega)
      | succ dd ih =>
        intro k K hd hF hvK hq
        have hLK := fr_lay hF hLM
        refine v_iload_n 2 dX4_lowest_16 rfl rfl ?_
        refine v_sipush dX4_lowest_17 (by decide) ?_
        refine v_icmp_ge 41 dX4_lowest_20 (by decide) (by omega) (by decide) (fun h20 => ?_) (fun h20 => ?_)
        · skip
          exact absurd h20 (by omega)
        · skip
          refine v_aload_n 0 dX4_lowest_23 rfl rfl ?_
          refine v_getR lk_X4_13 rfl (rfl : SH 110 = _) (mo_1 hLK) dX4_lowest_24 ?_
          refine v_iload_n 2 dX4_lowest_27 rfl rfl ?_
          refine v_aload_n 0 dX4_lowest_28 rfl rfl ?_
          refine v_getR lk_X4_7 rfl (rfl : SH 110 = _) (mo_0 hLK) dX4_lowest_29 ?_
          refine v_iload_n 2 dX4_lowest_32 rfl rfl ?_
          refine o_iald (j := k) (u := v (k)) (rfl : SH 111 = _) (by omega) (by omega) (by rw [hvK]) dX4_lowest_33 ?_
          refine o_iast (j := k) (by omega) (rfl : SH 112 = _) (by omega) (by omega) dX4_lowest_34 ?_
          refine v_iinc2 dX4_lowest_35 rfl ?_
          refine v_goto 16 dX4_lowest_38 (by decide) ?_
          exact ih (k + 1) _ (by omega) (fr_up hF (by decide) _ _) (by rw [← hvK]; funext b; dsimp only; rw [vup_o (by omega)]) (fun q h => by dsimp only; rw [vup_in]; split <;> rename_i e <;> first | exact hq q (by omega) | rw [show q = k by omega])
    exact lp16 264 0 M rfl fr_rf hv (fun q h => absurd h (by omega))
  · skip
    have ga := bP_0.mp h8
    refine v_ldc (-1000002) kc_X4_72 (by decide) dX4_lowest_11 ?_
    refine o_iret hQ hlk hrt dX4_lowest_13 ?_
    exact ⟨by rw [aLow, if_neg ga], fr_rf, hv⟩
