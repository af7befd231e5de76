/-! ===== the class: robbed ===== -/
theorem nu_andn {a b : Nat} (ha : a < 16777216) (hb : b < 16777216) : vand (a : Int) (vxor (b : Int) (-1)) = ((a &&& (4294967295 - b) : Nat) : Int) := by
  unfold vand vxor
  rw [Int32.ofInt_toInt, nu_of (Int.natCast_nonneg _), nu_of (Int.natCast_nonneg _), Int.toNat_natCast, Int.toNat_natCast]
  have hw : a &&& (4294967295 - b) < 2 ^ 32 := Nat.lt_of_le_of_lt Nat.and_le_left (by omega)
  have e2 : nI a &&& (nI b ^^^ Int32.ofInt (-1)) = nI (a &&& (4294967295 - b)) := by
    apply Int32.toBitVec.inj
    apply BitVec.eq_of_toNat_eq
    have hx : (nI b ^^^ Int32.ofInt (-1)).toBitVec = ~~~ (nI b).toBitVec := by
      have hm : (Int32.ofInt (-1)).toBitVec = BitVec.allOnes 32 := by decide
      rw [Int32.toBitVec_xor, hm, BitVec.xor_allOnes]
    rw [Int32.toBitVec_and, hx, BitVec.toNat_and, BitVec.toNat_not, pk_tn (by omega), pk_tn (by omega), pk_tn hw]
  rw [e2, nu_nI]
  exact Nat.lt_of_le_of_lt Nat.and_le_left (by omega)
def sRz (v : Sg) (st2 s : Nat) : Nat := sSk v (sDrw v) true s 24 &&& (4294967295 - sSk v st2 true s 24)
theorem sRz_lt (v : Sg) (st2 s : Nat) : sRz v st2 s < 16777216 := Nat.lt_of_le_of_lt Nat.and_le_left (sSk_lt v (sDrw v) true s 24 (Nat.le_refl _))
theorem sRob_k (v : Sg) (st2 s : Nat) : ∀ k, k ≤ 24 → sRob v st2 (24 * s + k) = sRob v st2 (24 * s) + (List.range k).countP (fun i => decide (sRs v (sDrw v) true s i = 0 ∧ ¬ sRs v st2 true s i = 0))
  | 0, _ => rfl
  | k + 1, hk => by
    rw [← Nat.add_assoc, sRob, (p_div (show k < 24 by omega)).1, (p_div (show k < 24 by omega)).2, sRob_k v st2 s k (by omega), List.range_succ, List.countP_append, List.countP_cons, List.countP_nil]
    by_cases h : sRs v (sDrw v) true s k = 0 ∧ ¬ sRs v st2 true s k = 0
    · rw [if_pos h, if_pos (decide_eq_true h)]
      omega
    · rw [if_neg h, if_neg (by rw [decide_eq_false h]; decide)]
      omega
theorem sRob_sum (v : Sg) (st2 : Nat) : ∀ n, sRob v st2 (24 * n) = pSum (fun s => sRz v st2 s) n
  | 0 => rfl
  | n + 1 => by
    rw [show 24 * (n + 1) = 24 * n + 24 by omega, sRob_k v st2 n 24 (Nat.le_refl _), sRob_sum v st2 n, pSum, pc, pcf_bits]
    congr 1
    refine cnt_congr 24 (fun j hj => ?_)
    have h := sSk_bit v (sDrw v) true n 24 (Nat.le_refl _) j (by omega)
    have h2 := sSk_bit v st2 true n 24 (Nat.le_refl _) j (by omega)
    have hb := sSk_lt v st2 true n 24 (Nat.le_refl _)
    have e : (sRz v st2 n).testBit j = ((sSk v (sDrw v) true n 24).testBit j && !(sSk v st2 true n 24).testBit j) := by
      rw [sRz, Nat.testBit_and, show 4294967295 - sSk v st2 true n 24 = 2 ^ 32 - (sSk v st2 true n 24 + 1) by omega, Nat.testBit_two_pow_sub_succ (by omega), decide_eq_true (show j < 32 by omega), Bool.true_and]
    rw [e]
    by_cases q : sRs v (sDrw v) true n j = 0
    · rw [h.mpr ⟨hj, q⟩]
      by_cases q2 : sRs v st2 true n j = 0
      · rw [h2.mpr ⟨hj, q2⟩, decide_eq_false (fun z => z.2 q2)]
        rfl
      · have : ¬ (sSk v st2 true n 24).testBit j = true := fun z => q2 (h2.mp z).2
        rw [show (sSk v st2 true n 24).testBit j = false by simpa using this, decide_eq_true ⟨q, q2⟩]
        rfl
    · have : ¬ (sSk v (sDrw v) true n 24).testBit j = true := fun z => q (h.mp z).2
      rw [show (sSk v (sDrw v) true n 24).testBit j = false by simpa using this, decide_eq_false (fun z => q z.1)]
      rfl
set_option maxRecDepth 100000 in
set_option maxHeartbeats 400000 in
theorem c_X3_robbed {l : Launch} {G : vGG} {M : Mem} {v : Sg} (hLX : LayX M.2) (hX : XS 1 v M.1) (hI : sInv v) {a : Int} (ha : R32 a) : Co l yX3_robbed cX3_robbed 4 (some .int) (rmo 6 137) G [aR (some 0), aI a] M (fun r M' => r = some (aI (aRob v a)) ∧ fz 26 40 1 0 M M') := by
  refine Co.ofV (plainFor_of_name (by decide)) rfl rfl ?_
  intro x hxl hxR hlk hrt Q hQ
  show vO x Q G cX3_robbed RX3 0 [some (aR (some 0)), some (aI a), none, none] [] M
  refine v_iload_n 1 dX3_robbed_0 rfl rfl ?_
  refine oSv1 (c_X3_isStop (by omega)) k0_X3_isStop ki_X3_isStop ml_X3_47 (vRo_of hxR (by decide) (by decide)) dX3_robbed_1 (Nat.le_of_ble_eq_true rfl) ?_
  refine v_if_ne 10 dX3_robbed_4 (by decide) (bP_R _) (fun h4 => ?_) (fun h4 => ?_)
  · skip
    have ga := bP_n0.mp h4
    obtain ⟨s, rfl⟩ : ∃ s : Nat, a = ((s : Nat) : Int) := ⟨(a).toNat, by omega⟩
    refine v_aload_n 0 dX3_robbed_10 rfl rfl ?_
    refine v_getR lk_X3_10 rfl (rfl : SH 0 = _) (ow_0 hLX) dX3_robbed_11 ?_
    refine o_getI (u := ((sDrw v : Nat) : Int)) lk_X3_80 rfl (st_o stB_1) (xs_drw hX) dX3_robbed_14 ?_
    refine v_iload_n 1 dX3_robbed_17 rfl rfl ?_
    have hdl := sDrw_lt hI
    refine oSv2 (c_X3_isIn (Int.natCast_nonneg _) (by omega) (by omega)) k0_X3_isIn ki_X3_isIn ml_X3_84 (vRo_of hxR (by decide) (by decide)) dX3_robbed_18 (Nat.le_of_ble_eq_true rfl) ?_
    refine v_if_eq 27 dX3_robbed_21 (by decide) (bP_R _) (fun h21 => ?_) (fun h21 => ?_)
    · skip
      have g : ¬ (sDrw v).testBit s = true := by simpa [bt] using bP_0.mp h21
      refine v_aload_n 0 dX3_robbed_27 rfl rfl ?_
      refine oVm0 3 (c_X3_readWind hLX hX hI) k0_X3_readWind ki_X3_readWind ml_X3_172 (rfl : SH 0 = _) (by decide) (vRo_of hxR (by decide) (by decide)) dX3_robbed_28 (Nat.le_of_ble_eq_true rfl) (fun N hN => ?_)
      obtain ⟨hF, hW⟩ := hN
      have hLN := fz_layX hF hLX
      have hXN := hX.keep (fun i h1 h2 => hF.2 i (by omega) (by omega))
      have hFq : fz 26 40 1 0 M N := ⟨hF.1, fun i h1 h2 => hF.2 i (by omega) (by omega)⟩
      refine v_aload_n 0 dX3_robbed_31 rfl rfl ?_
      refine v_getR lk_X3_44 rfl (rfl : SH 0 = _) (ow_7 hLN) dX3_robbed_32 ?_
      refine v_aload_n 0 dX3_robbed_35 rfl rfl ?_
      refine v_getR lk_X3_10 rfl (rfl : SH 0 = _) (ow_0 hLN) dX3_robbed_36 ?_
      refine v_aload_n 0 dX3_robbed_39 rfl rfl ?_
      refine v_getR lk_X3_10 rfl (rfl : SH 0 = _) (ow_0 hLN) dX3_robbed_40 ?_
      refine o_getI (u := ((sDrw v : Nat) : Int)) lk_X3_80 rfl (st_o stB_1) (xs_drw hXN) dX3_robbed_43 ?_
      refine v_iload_n 1 dX3_robbed_46 rfl rfl ?_
      refine v_iconst dX3_robbed_47 ?_
      refine oSv3 (c_X3_with (Int.natCast_nonneg _) (by omega) (by omega) (by decide)) k0_X3_with ki_X3_with ml_X3_111 (vRo_of hxR (by decide) (by decide)) dX3_robbed_48 (Nat.le_of_ble_eq_true rfl) ?_
      refine o_eqI (u := (((sDrw v ||| 2 ^ s) : Nat) : Int)) rfl ?_
      have hs2 := (ro_o hI (show s < 8 by omega)).2
      refine v_iconst dX3_robbed_51 ?_
      refine oVm3 2 (c_X2_listen (pr := true) stB_1 hLN hXN hI wiB_33 hs2) k0_X2_listen ki_X2_listen ml_X3_271 (wi_o wiB_33) (by decide) (vRo_of hxR (by decide) (by decide)) dX3_robbed_52 (Nat.le_of_ble_eq_true rfl) (fun N hN => ?_)
      obtain ⟨hF2, hW2⟩ := hN
      have hF3 := fz_tr hFq hF2 (fun i h1 h2 => by omega)
      have hLN := fz_layX hF3 hLX
      have hWa : ∀ i, i < 8 → N.1 (26 + 1 + 5) i = ((sSk v (sDrw v) true i 24 : Nat) : Int) := fun i hi => by rw [hF2.2 _ (by omega) (by omega)]; exact hW.2.2.2 i hi
      refine v_iconst dX3_robbed_55 ?_
      refine v_ist2 dX3_robbed_56 rfl ?_
      refine v_iconst dX3_robbed_57 ?_
      refine v_ist3 dX3_robbed_58 rfl ?_
      have lp59 : ∀ (dd i : Nat), i + dd = 8 → vO x Q G cX3_robbed RX3 59 [some (aR (some 0)), some (aI (s : Int)), some (aI ((pSum (fun s2 => sRz v (sDrw v ||| 2 ^ s) s2) i : Nat) : Int)), some (aI (i : Int))] [] N := by
        intro dd
        induction dd with
        | zero =>
          intro i hd
          obtain rfl : i = 8 := by omega
          refine v_iload_n 3 dX3_robbed_59 rfl rfl ?_
          refine v_bipush dX3_robbed_60 (by decide) ?_
          refine v_icmp_ge 98 dX3_robbed_62 (by decide) (by omega) (by decide) (fun h62 => ?_) (fun h62 => ?_)
          · skip
            refine v_iload_n 2 dX3_robbed_98 rfl rfl ?_
            refine o_iret hQ hlk hrt dX3_robbed_99 ?_
            exact ⟨by unfold aRob; rw [if_pos ga, Int.toNat_natCast, if_neg g, ← sRob_sum], hF3⟩
          · skip
            exact absurd h62 (by omega)
        | succ dd ih =>
          intro i hd
          refine v_iload_n 3 dX3_robbed_59 rfl rfl ?_
          refine v_bipush dX3_robbed_60 (by decide) ?_
          refine v_icmp_ge 98 dX3_robbed_62 (by decide) (by omega) (by decide) (fun h62 => ?_) (fun h62 => ?_)
          · skip
            exact absurd h62 (by omega)
          · skip
            refine v_iload_n 2 dX3_robbed_65 rfl rfl ?_
            refine v_aload_n 0 dX3_robbed_66 rfl rfl ?_
            refine v_getR lk_X3_40 rfl (rfl : SH 0 = _) (ow_6 hLN) dX3_robbed_67 ?_
            refine v_getR lk_X3_196 rfl (wi_o wiB_26) (hLN.2.1 26 wiB_26 5 (by decide)) dX3_robbed_70 ?_
            refine v_iload_n 3 dX3_robbed_73 rfl rfl ?_
            refine o_iald (j := i) (u := ((sSk v (sDrw v) true (i) 24 : Nat) : Int)) (wi_a5 wiB_26) (by omega) (by omega) (hWa _ (by omega)) dX3_robbed_74 ?_
            refine v_aload_n 0 dX3_robbed_75 rfl rfl ?_
            refine v_getR lk_X3_44 rfl (rfl : SH 0 = _) (ow_7 hLN) dX3_robbed_76 ?_
            refine v_getR lk_X3_196 rfl (wi_o wiB_33) (hLN.2.1 33 wiB_33 5 (by decide)) dX3_robbed_79 ?_
            refine v_iload_n 3 dX3_robbed_82 rfl rfl ?_
            refine o_iald (j := i) (u := ((sSk v (sDrw v ||| 2 ^ s) true (i) 24 : Nat) : Int)) (wi_a5 wiB_33) (by omega) (by omega) (hW2.2.2.2 _ (by omega)) dX3_robbed_83 ?_
            refine v_iconst dX3_robbed_84 ?_
            refine v_ixor dX3_robbed_85 ?_
            refine v_iand dX3_robbed_86 ?_
            refine o_eqI (u := ((sRz v (sDrw v ||| 2 ^ s) i : Nat) : Int)) (nu_andn (sSk_lt v _ true i 24 (Nat.le_refl _)) (sSk_lt v _ true i 24 (Nat.le_refl _))) ?_
            refine oSv1 (c_J6_bitCount (sRz_lt v (sDrw v ||| 2 ^ s) i)) k0_J6_bitCount ki_J6_bitCount ml_X3_115 (vRo_of hxR (by decide) (by decide)) dX3_robbed_87 (Nat.le_of_ble_eq_true rfl) ?_
            refine v_iadd dX3_robbed_90 ?_
            refine o_eqI (u := ((pSum (fun s2 => sRz v (sDrw v ||| 2 ^ s) s2) (i + 1) : Nat) : Int)) (by rw [pSum]; omega) ?_
            refine v_ist2 dX3_robbed_91 rfl ?_
            refine v_iinc3 dX3_robbed_92 rfl ?_
            refine v_goto 59 dX3_robbed_95 (by decide) ?_
            exact ih (i + 1) (by omega)
      exact lp59 8 0 rfl
    · skip
      have g : (sDrw v).testBit s = true := by simpa [bt] using bP_n0.mp h21
      refine v_ldc (-1000003) kc_X3_149 (by decide) dX3_robbed_24 ?_
      refine o_iret hQ hlk hrt dX3_robbed_26 ?_
      exact ⟨by unfold aRob; rw [if_pos ga, Int.toNat_natCast, if_pos g], fz_rf⟩
  · skip
    have ga := bP_0.mp h4
    refine v_ldc (-1000001) kc_X3_51 (by decide) dX3_robbed_7 ?_
    refine o_iret hQ hlk hrt dX3_robbed_9 ?_
    first | exact ⟨by unfold aRob; rw [if_neg ga], fz_rf⟩
