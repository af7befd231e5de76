/-! ===== the twin: mistuned, searches; the questions ===== -/
theorem mi_e {v : Sg} {st p : Nat} (h : ¬ sRs v st true (p / 24) (p % 24) = 0) : sMi v st p = sMi v st (p + 1) := by rw [sMi, if_neg h]
theorem mi_a {v : Sg} {st p : Nat} (h : sRs v st true (p / 24) (p % 24) = 0) (ha : (sMi v st p).2.2 = false) : sPitch v st true (p / 24) (p % 24) = (sMi v st (p + 1)).1 ∧ sPitch v st true (p / 24) (p % 24) = (sMi v st (p + 1)).2.1 := by
  rw [sMi, if_pos h]
  dsimp only
  rw [if_pos (Or.inl ha), if_pos (Or.inl ha)]
  exact ⟨rfl, rfl⟩
theorem mi_b {v : Sg} {st p : Nat} (h : sRs v st true (p / 24) (p % 24) = 0) (hb : sPitch v st true (p / 24) (p % 24) < (sMi v st p).1) : sPitch v st true (p / 24) (p % 24) = (sMi v st (p + 1)).1 := by
  rw [sMi, if_pos h]
  dsimp only
  rw [if_pos (Or.inr hb)]
theorem mi_c {v : Sg} {st p : Nat} (h : sRs v st true (p / 24) (p % 24) = 0) (ha : (sMi v st p).2.2 = true) (hb : (sMi v st p).1 ≤ sPitch v st true (p / 24) (p % 24)) : (sMi v st p).1 = (sMi v st (p + 1)).1 := by
  rw [sMi, if_pos h]
  dsimp only
  rw [if_neg]
  rintro (q | q)
  · rw [ha] at q; cases q
  · omega
theorem mi_d {v : Sg} {st p : Nat} (h : sRs v st true (p / 24) (p % 24) = 0) (hb : (sMi v st p).2.1 < sPitch v st true (p / 24) (p % 24)) : sPitch v st true (p / 24) (p % 24) = (sMi v st (p + 1)).2.1 := by
  rw [sMi, if_pos h]
  dsimp only
  rw [if_pos (Or.inr hb)]
theorem mi_f {v : Sg} {st p : Nat} (h : sRs v st true (p / 24) (p % 24) = 0) (ha : (sMi v st p).2.2 = true) (hb : sPitch v st true (p / 24) (p % 24) ≤ (sMi v st p).2.1) : (sMi v st p).2.1 = (sMi v st (p + 1)).2.1 := by
  rw [sMi, if_pos h]
  dsimp only
  rw [if_neg]
  rintro (q | q)
  · rw [ha] at q; cases q
  · omega
theorem mi_t {v : Sg} {st p : Nat} (h : sRs v st true (p / 24) (p % 24) = 0) : (1 : Int) = bP ((sMi v st (p + 1)).2.2 = true) := by
  rw [sMi, if_pos h]
  rfl
theorem row_d : (List.range 8).all (fun a => (List.range 8).all fun i => decide (8 ≤ a + i) || (decide (sRow a i ||| 2 ^ (a + i) = sRow a (i + 1)) && decide (sRow a i < 256) && decide (sRow a (i + 1) < 256))) = true := by decide +kernel
theorem row_s {a i : Nat} (h : a + i < 8) : sRow a i ||| 2 ^ (a + i) = sRow a (i + 1) ∧ sRow a i < 256 ∧ sRow a (i + 1) < 256 := by
  have h1 := bc_r row_d (show a < 8 by omega)
  have h2 := bc_r h1 (show i < 8 by omega)
  have h3 : decide (8 ≤ a + i) = false := decide_eq_false (by omega)
  rw [h3, Bool.false_or, Bool.and_eq_true, Bool.and_eq_true, decide_eq_true_eq, decide_eq_true_eq, decide_eq_true_eq] at h2
  exact ⟨h2.1.1, h2.1.2, h2.2⟩
theorem row_lt {a n : Nat} (h : a + n ≤ 8) (hn : 0 < n) : sRow a n < 256 := by
  obtain ⟨i, rfl⟩ : ∃ i, n = i + 1 := ⟨n - 1, by omega⟩
  exact (row_s (a := a) (i := i) (by omega)).2.2
theorem row_o {a i : Nat} (h : a + i < 8) : vor ((sRow a i : Nat) : Int) (vshl 1 ((a + i : Nat) : Int)) = ((sRow a (i + 1) : Nat) : Int) := by
  obtain ⟨h1, h2, h3⟩ := row_s h
  have hp := nu_p2 (k := a + i) (by omega)
  have e : vshl 1 ((a + i : Nat) : Int) = ((2 ^ (a + i) : Nat) : Int) := by
    rw [nu_shl (by decide) (by omega) (by show 1 * 2 ^ (a + i) < _; omega)]
    show ((1 * 2 ^ (a + i) : Nat) : Int) = _
    rw [Nat.one_mul]
  rw [e, nu_or (by omega) (by omega) (Int.natCast_nonneg _) (Int.ofNat_le.mpr (Nat.le_trans hp (by decide))), Int.toNat_natCast, Int.toNat_natCast, h1]
set_option maxRecDepth 100000 in
set_option maxHeartbeats 400000 in
theorem c_X4_mistunedNow {l : Launch} {G : vGG} {M : Mem} {v : Sg} (hLM : LayM M.2) (hv : M.1 111 = v) (hI : sInv v) : Co l yX4_mistunedNow cX4_mistunedNow 7 (some .int) (rmo 3 70) G [aR (some 110)] M (fun r M' => r = some (aI (sMist v)) ∧ fr [120, 121, 122, 123, 124, 125] M M') := by
  refine Co.ofV (plainFor_of_name (by decide)) rfl rfl ?_
  intro x hxl hxR hlk hrt Q hQ
  show vO x Q G cX4_mistunedNow RX4 0 [some (aR (some 110)), none, none, none, none, none, none] [] M
  refine v_aload_n 0 dX4_mistunedNow_0 rfl rfl ?_
  refine oVm0 4 (c_X4_laysNow hLM hv hI) k0_X4_laysNow ki_X4_laysNow ml_X4_131 (rfl : SH 110 = _) (by decide) (vRo_of hxR (by decide) (by decide)) dX4_mistunedNow_1 (Nat.le_of_ble_eq_true rfl) (fun N hN => ?_)
  obtain ⟨hF, hC⟩ := hN
  have hLN := fr_lay hF hLM
  have hvN : N.1 111 = v := (hF.2 111 (by decide)).trans hv
  have hst := sDrw_lt hI
  refine v_aload_n 0 dX4_mistunedNow_4 rfl rfl ?_
  refine oVv0 4 (c_X4_drawn hLN hvN hI) k0_X4_drawn ki_X4_drawn ml_X4_96 (rfl : SH 110 = _) (by decide) (vRo_of hxR (by decide) (by decide)) dX4_mistunedNow_5 (Nat.le_of_ble_eq_true rfl) ?_
  refine v_ist1 dX4_mistunedNow_8 rfl ?_
  refine v_iconst dX4_mistunedNow_9 ?_
  refine v_ist2 dX4_mistunedNow_10 rfl ?_
  refine v_iconst dX4_mistunedNow_11 ?_
  refine v_ist3 dX4_mistunedNow_12 rfl ?_
  refine v_iconst dX4_mistunedNow_13 ?_
  refine v_ist4 dX4_mistunedNow_14 rfl ?_
  refine v_iconst dX4_mistunedNow_16 ?_
  refine v_ist5 dX4_mistunedNow_17 rfl ?_
  have lp19 : ∀ (dd p : Nat) (c6 : Option AV), p + dd = 192 → vO x Q G cX4_mistunedNow RX4 19 [some (aR (some 110)), some (aI (((sDrw v) : Nat) : Int)), some (aI ((sMi v (sDrw v) p).1)), some (aI ((sMi v (sDrw v) p).2.1)), some (aI (bP ((sMi v (sDrw v) p).2.2 = true))), some (aI (p : Int)), c6] [] N := by
    intro dd
    induction dd with
    | zero =>
      intro p c6 hd
      obtain rfl : p = 192 := by omega
      refine v_iload dX4_mistunedNow_19 rfl ?_
      refine v_sipush dX4_mistunedNow_21 (by decide) ?_
      refine v_icmp_ge 106 dX4_mistunedNow_24 (by decide) (by omega) (by decide) (fun h24 => ?_) (fun h24 => ?_)
      · skip
        refine v_iload dX4_mistunedNow_106 rfl ?_
        refine v_if_eq 117 dX4_mistunedNow_108 (by decide) (bP_R _) (fun h108 => ?_) (fun h108 => ?_)
        · skip
          have ga := bP_0.mp h108
          refine v_ldc (-1000005) kc_X4_177 (by decide) dX4_mistunedNow_117 ?_
          refine o_iret hQ hlk hrt dX4_mistunedNow_119 ?_
          first | exact ⟨by rw [sMist, if_pos gt], hF⟩ | exact ⟨by rw [sMist, if_neg ga], hF⟩
        · skip
          have gt := bP_n0.mp h108
          refine v_iload_n 3 dX4_mistunedNow_111 rfl rfl ?_
          refine v_iload_n 2 dX4_mistunedNow_112 rfl rfl ?_
          refine v_isub dX4_mistunedNow_113 ?_
          refine v_goto 119 dX4_mistunedNow_114 (by decide) ?_
          refine o_iret hQ hlk hrt dX4_mistunedNow_119 ?_
          first | exact ⟨by rw [sMist, if_pos gt], hF⟩ | exact ⟨by rw [sMist, if_neg ga], hF⟩
      · skip
        exact absurd h24 (by omega)
    | succ dd ih =>
      intro p c6 hd
      refine v_iload dX4_mistunedNow_19 rfl ?_
      refine v_sipush dX4_mistunedNow_21 (by decide) ?_
      refine v_icmp_ge 106 dX4_mistunedNow_24 (by decide) (by omega) (by decide) (fun h24 => ?_) (fun h24 => ?_)
      · skip
        exact absurd h24 (by omega)
      · skip
        refine v_aload_n 0 dX4_mistunedNow_27 rfl rfl ?_
        refine v_iload dX4_mistunedNow_28 rfl ?_
        refine v_bipush dX4_mistunedNow_30 (by decide) ?_
        refine v_idiv dX4_mistunedNow_32 (by omega) (by decide) (by omega) ?_
        refine o_eqI (u := ((p / 24 : Nat) : Int)) (dv_n p 24) ?_
        refine v_iload dX4_mistunedNow_33 rfl ?_
        refine v_bipush dX4_mistunedNow_35 (by decide) ?_
        refine v_irem dX4_mistunedNow_37 (by omega) (by decide) (by omega) ?_
        refine o_eqI (u := ((p % 24 : Nat) : Int)) (md_n p 24) ?_
        refine v_iload_n 1 dX4_mistunedNow_38 rfl rfl ?_
        refine oVv3 4 (c_X4_reasonOf hLN hvN hI hC hst (by omega) (by omega)) k0_X4_reasonOf ki_X4_reasonOf ml_X4_179 (rfl : SH 110 = _) (by decide) (vRo_of hxR (by decide) (by decide)) dX4_mistunedNow_39 (Nat.le_of_ble_eq_true rfl) ?_
        have hrb := sRs_b v (sDrw v) true (p / 24) (p % 24)
        have hmb := sMi_b hI (sDrw v) p (by omega)
        have hpb := sPitch_b hI (sDrw v) true (s := p / 24) (k := p % 24) (by omega) (by omega)
        refine v_if_ne 100 dX4_mistunedNow_42 (by decide) (by omega) (fun h42 => ?_) (fun h42 => ?_)
        · skip
          refine v_iinc5 dX4_mistunedNow_100 rfl ?_
          refine v_goto 19 dX4_mistunedNow_103 (by decide) ?_
          first | exact ih (p + 1) _ (by omega) | (rw [mi_e h42]; exact ih (p + 1) _ (by omega))
        · skip
          refine v_aload_n 0 dX4_mistunedNow_45 rfl rfl ?_
          refine v_iload dX4_mistunedNow_46 rfl ?_
          refine v_bipush dX4_mistunedNow_48 (by decide) ?_
          refine v_idiv dX4_mistunedNow_50 (by omega) (by decide) (by omega) ?_
          refine o_eqI (u := ((p / 24 : Nat) : Int)) (dv_n p 24) ?_
          refine v_iload dX4_mistunedNow_51 rfl ?_
          refine v_bipush dX4_mistunedNow_53 (by decide) ?_
          refine v_irem dX4_mistunedNow_55 (by omega) (by decide) (by omega) ?_
          refine o_eqI (u := ((p % 24 : Nat) : Int)) (md_n p 24) ?_
          refine oVv2 4 (c_X4_pitch hLN hvN hI hC hst (by omega) (by omega)) k0_X4_pitch ki_X4_pitch ml_X4_195 (rfl : SH 110 = _) (by decide) (vRo_of hxR (by decide) (by decide)) dX4_mistunedNow_56 (Nat.le_of_ble_eq_true rfl) ?_
          refine v_ist6 dX4_mistunedNow_59 rfl ?_
          refine v_iload dX4_mistunedNow_61 rfl ?_
          have jn78 : ∀ z : Int, z = (sMi v (sDrw v) (p + 1)).1 → vO x Q G cX4_mistunedNow RX4 78 [some (aR (some 110)), some (aI (((sDrw v) : Nat) : Int)), some (aI ((sMi v (sDrw v) p).1)), some (aI ((sMi v (sDrw v) p).2.1)), some (aI (bP ((sMi v (sDrw v) p).2.2 = true))), some (aI (p : Int)), some (aI (sPitch v (sDrw v) true (p / 24) (p % 24)))] [aI z] N := by
            intro z hz
            subst hz
            refine v_ist2 dX4_mistunedNow_78 rfl ?_
            refine v_iload dX4_mistunedNow_79 rfl ?_
            have jn96 : ∀ z : Int, z = (sMi v (sDrw v) (p + 1)).2.1 → vO x Q G cX4_mistunedNow RX4 96 [some (aR (some 110)), some (aI (((sDrw v) : Nat) : Int)), some (aI ((sMi v (sDrw v) (p + 1)).1)), some (aI ((sMi v (sDrw v) p).2.1)), some (aI (bP ((sMi v (sDrw v) p).2.2 = true))), some (aI (p : Int)), some (aI (sPitch v (sDrw v) true (p / 24) (p % 24)))] [aI z] N := by
              intro z hz
              subst hz
              refine v_ist3 dX4_mistunedNow_96 rfl ?_
              refine v_iconst dX4_mistunedNow_97 ?_
              refine o_eqI (mi_t h42) ?_
              refine v_ist4 dX4_mistunedNow_98 rfl ?_
              refine v_iinc5 dX4_mistunedNow_100 rfl ?_
              refine v_goto 19 dX4_mistunedNow_103 (by decide) ?_
              first | exact ih (p + 1) _ (by omega) | (rw [mi_e h42]; exact ih (p + 1) _ (by omega))
            refine v_if_eq 90 dX4_mistunedNow_81 (by decide) (bP_R _) (fun h81 => ?_) (fun h81 => ?_)
            · skip
              have ga : (sMi v (sDrw v) p).2.2 = false := by simpa using bP_0.mp h81
              refine v_iload dX4_mistunedNow_90 rfl ?_
              refine v_goto 96 dX4_mistunedNow_92 (by decide) ?_
              first | with_reducible exact jn96 _ (mi_a h42 ga).2 | with_reducible exact jn96 _ (mi_f h42 gt h87) | with_reducible exact jn96 _ (mi_d h42 h87)
            · skip
              have gt := bP_n0.mp h81
              refine v_iload dX4_mistunedNow_84 rfl ?_
              refine v_iload_n 3 dX4_mistunedNow_86 rfl rfl ?_
              refine v_icmp_le 95 dX4_mistunedNow_87 (by decide) (by omega) (by omega) (fun h87 => ?_) (fun h87 => ?_)
              · skip
                refine v_iload_n 3 dX4_mistunedNow_95 rfl rfl ?_
                first | with_reducible exact jn96 _ (mi_a h42 ga).2 | with_reducible exact jn96 _ (mi_f h42 gt h87) | with_reducible exact jn96 _ (mi_d h42 h87)
              · skip
                refine v_iload dX4_mistunedNow_90 rfl ?_
                refine v_goto 96 dX4_mistunedNow_92 (by decide) ?_
                first | with_reducible exact jn96 _ (mi_a h42 ga).2 | with_reducible exact jn96 _ (mi_f h42 gt h87) | with_reducible exact jn96 _ (mi_d h42 h87)
          refine v_if_eq 72 dX4_mistunedNow_63 (by decide) (bP_R _) (fun h63 => ?_) (fun h63 => ?_)
          · skip
            have ga : (sMi v (sDrw v) p).2.2 = false := by simpa using bP_0.mp h63
            refine v_iload dX4_mistunedNow_72 rfl ?_
            refine v_goto 78 dX4_mistunedNow_74 (by decide) ?_
            first | with_reducible exact jn78 _ (mi_a h42 ga).1 | with_reducible exact jn78 _ (mi_c h42 gt h69) | with_reducible exact jn78 _ (mi_b h42 h69)
          · skip
            have gt := bP_n0.mp h63
            refine v_iload dX4_mistunedNow_66 rfl ?_
            refine v_iload_n 2 dX4_mistunedNow_68 rfl rfl ?_
            refine v_icmp_ge 77 dX4_mistunedNow_69 (by decide) (by omega) (by omega) (fun h69 => ?_) (fun h69 => ?_)
            · skip
              refine v_iload_n 2 dX4_mistunedNow_77 rfl rfl ?_
              first | with_reducible exact jn78 _ (mi_a h42 ga).1 | with_reducible exact jn78 _ (mi_c h42 gt h69) | with_reducible exact jn78 _ (mi_b h42 h69)
            · skip
              refine v_iload dX4_mistunedNow_72 rfl ?_
              refine v_goto 78 dX4_mistunedNow_74 (by decide) ?_
              first | with_reducible exact jn78 _ (mi_a h42 ga).1 | with_reducible exact jn78 _ (mi_c h42 gt h69) | with_reducible exact jn78 _ (mi_b h42 h69)
  exact lp19 192 0 _ rfl
set_option maxRecDepth 100000 in
set_option maxHeartbeats 400000 in
theorem c_X4_mistuned {l : Launch} {G : vGG} {M : Mem} {v : Sg} (hLM : LayM M.2) (hv : M.1 111 = v) (hI : sInv v) : Co l yX4_mistuned cX4_mistuned 1 (some .int) (rmo 4 96) G [aR (some 110)] M (fun r M' => r = some (aI (sMist v)) ∧ fr [120, 121, 122, 123, 124, 125] M M') := by
  refine Co.ofV (plainFor_of_name (by decide)) rfl rfl ?_
  intro x hxl hxR hlk hrt Q hQ
  show vO x Q G cX4_mistuned RX4 0 [some (aR (some 110))] [] M
  refine v_aload_n 0 dX4_mistuned_0 rfl rfl ?_
  refine oVq0 4 (c_X4_mistunedNow hLM hv hI) k0_X4_mistunedNow ki_X4_mistunedNow ml_X4_204 (rfl : SH 110 = _) (by decide) (vRo_of hxR (by decide) (by decide)) dX4_mistuned_1 (Nat.le_of_ble_eq_true rfl) (fun N hN => ?_)
  refine o_iret hQ hlk hrt dX4_mistuned_4 ?_
  exact ⟨rfl, hN⟩
set_option maxRecDepth 100000 in
set_option maxHeartbeats 400000 in
theorem c_X4_isHeard {l : Launch} {G : vGG} {M : Mem} {v : Sg} (hLM : LayM M.2) (hv : M.1 111 = v) (hI : sInv v) {a n : Nat} {y z : Int} (hy : y = (a : Int)) (hz : z = (a : Int) + n - 1) (h : a + n ≤ 8) (hn : 0 < n) : Co l yX4_isHeard cX4_isHeard 5 (some .boolean) (rmo 3 69) G [aR (some 110), aI y, aI z] M (fun r M' => r = some (aI (bP (sH v a n = true))) ∧ fr [120, 121, 122, 123, 124, 125] M M') := by
  refine Co.ofV (plainFor_of_name (by decide)) rfl rfl ?_
  intro x hxl hxR hlk hrt Q hQ
  subst hy hz
  show vO x Q G cX4_isHeard RX4 0 [some (aR (some 110)), some (aI (a : Int)), some (aI ((a : Int) + n - 1)), none, none] [] M
  refine v_iconst dX4_isHeard_0 ?_
  refine v_ist3 dX4_isHeard_1 rfl ?_
  refine o_mem rfl ?_
  refine v_iload_n 1 dX4_isHeard_2 rfl rfl ?_
  refine v_ist4 dX4_isHeard_3 rfl ?_
  have lp5 : ∀ (dd i : Nat), i + dd = n → vO x Q G cX4_isHeard RX4 5 [some (aR (some 110)), some (aI (a : Int)), some (aI ((a : Int) + n - 1)), some (aI ((sRow a i : Nat) : Int)), some (aI ((a + i : Nat) : Int))] [] M := by
    intro dd
    induction dd with
    | zero =>
      intro i hd
      obtain rfl : i = n := by omega
      refine v_iload dX4_isHeard_5 rfl ?_
      refine v_iload_n 2 dX4_isHeard_7 rfl rfl ?_
      refine v_icmp_gt 24 dX4_isHeard_8 (by decide) (by omega) (by omega) (fun h8 => ?_) (fun h8 => ?_)
      · skip
        refine v_aload_n 0 dX4_isHeard_24 rfl rfl ?_
        refine v_iload_n 3 dX4_isHeard_25 rfl rfl ?_
        refine v_iconst dX4_isHeard_26 ?_
        refine oVm2 4 (c_X4_lays_f hLM hv hI (row_lt h hn)) k0_X4_lays ki_X4_lays ml_X4_117 (rfl : SH 110 = _) (by decide) (vRo_of hxR (by decide) (by decide)) dX4_isHeard_27 (Nat.le_of_ble_eq_true rfl) (fun N hN => ?_)
        obtain ⟨hF, hC⟩ := hN
        have hLN := fr_lay hF hLM
        have hvN : N.1 111 = v := (hF.2 111 (by decide)).trans hv
        refine v_aload_n 0 dX4_isHeard_30 rfl rfl ?_
        refine v_iload_n 3 dX4_isHeard_31 rfl rfl ?_
        refine oVv1 4 (c_X4_speaking hLN hvN hI hC (row_lt h hn)) k0_X4_speaking ki_X4_speaking ml_X4_186 (rfl : SH 110 = _) (by decide) (vRo_of hxR (by decide) (by decide)) dX4_isHeard_32 (Nat.le_of_ble_eq_true rfl) ?_
        have hle := sSp_le v (sRow a i) false 192
        refine v_if_le 42 dX4_isHeard_35 (by decide) (by omega) (fun h35 => ?_) (fun h35 => ?_)
        · skip
          refine v_iconst dX4_isHeard_42 ?_
          refine o_zret hQ hlk hrt (by decide) dX4_isHeard_43 ?_
          first | exact ⟨by rw [bP_t (by unfold sH; exact decide_eq_true (by omega))], hF⟩ | exact ⟨by rw [bP_f (by unfold sH; simp; omega)], hF⟩
        · skip
          refine v_iconst dX4_isHeard_38 ?_
          refine v_goto 43 dX4_isHeard_39 (by decide) ?_
          refine o_zret hQ hlk hrt (by decide) dX4_isHeard_43 ?_
          first | exact ⟨by rw [bP_t (by unfold sH; exact decide_eq_true (by omega))], hF⟩ | exact ⟨by rw [bP_f (by unfold sH; simp; omega)], hF⟩
      · skip
        exact absurd h8 (by omega)
    | succ dd ih =>
      intro i hd
      refine v_iload dX4_isHeard_5 rfl ?_
      refine v_iload_n 2 dX4_isHeard_7 rfl rfl ?_
      refine v_icmp_gt 24 dX4_isHeard_8 (by decide) (by omega) (by omega) (fun h8 => ?_) (fun h8 => ?_)
      · skip
        exact absurd h8 (by omega)
      · skip
        refine v_iload_n 3 dX4_isHeard_11 rfl rfl ?_
        refine v_iconst dX4_isHeard_12 ?_
        refine v_iload dX4_isHeard_13 rfl ?_
        refine v_ishl dX4_isHeard_15 ?_
        refine v_ior dX4_isHeard_16 ?_
        refine o_eqI (row_o (by omega)) ?_
        refine v_ist3 dX4_isHeard_17 rfl ?_
        refine v_iinc4 dX4_isHeard_18 rfl ?_
        refine v_goto 5 dX4_isHeard_21 (by decide) ?_
        exact ih (i + 1) (by omega)
  have q := lp5 n 0 (by omega)
  rw [show sRow a 0 = 0 by simp [sRow]] at q
  exact q
set_option maxRecDepth 100000 in
set_option maxHeartbeats 400000 in
theorem c_X4_searches {l : Launch} {G : vGG} {M : Mem} {v : Sg} (hLM : LayM M.2) (hv : M.1 111 = v) (hI : sInv v) {w : Nat} (hw : w < 3) : Co l yX4_searches cX4_searches 6 (some .int) (rmo 4 93) G [aR (some 110), aI (w : Int)] M (fun r M' => r = some (aI (sSearch v w)) ∧ fr [120, 121, 122, 123, 124, 125] M M') := by
  refine Co.ofV (plainFor_of_name (by decide)) rfl rfl ?_
  intro x hxl hxR hlk hrt Q hQ
  show vO x Q G cX4_searches RX4 0 [some (aR (some 110)), some (aI (w : Int)), none, none, none, none] [] M
  refine v_iconst dX4_searches_0 ?_
  refine v_ist2 dX4_searches_1 rfl ?_
  refine v_bipush dX4_searches_2 (by decide) ?_
  refine v_ist3 dX4_searches_4 rfl ?_
  refine v_iconst dX4_searches_5 ?_
  refine v_ist4 dX4_searches_6 rfl ?_
  refine v_aload_n 0 dX4_searches_8 rfl rfl ?_
  refine v_iconst dX4_searches_9 ?_
  refine v_bipush dX4_searches_10 (by decide) ?_
  refine oVq2 4 (c_X4_isHeard (a := 0) (n := 8) hLM hv hI rfl rfl (by decide) (by decide)) k0_X4_isHeard ki_X4_isHeard ml_X4_207 (rfl : SH 110 = _) (by decide) (vRo_of hxR (by decide) (by decide)) dX4_searches_12 (Nat.le_of_ble_eq_true rfl) (fun N hN => ?_)
  have hA := hN
  have hLN := fr_lay hA hLM
  have hvN : N.1 111 = v := (hA.2 111 (by decide)).trans hv
  refine v_if_ne 31 dX4_searches_15 (by decide) (bP_R _) (fun h15 => ?_) (fun h15 => ?_)
  · skip
    have g0 : ¬ sH v 0 8 = false := by simpa using bP_n0.mp h15
    refine v_iload_n 2 dX4_searches_31 rfl rfl ?_
    refine v_iload_n 3 dX4_searches_32 rfl rfl ?_
    refine v_icmp_ge 76 dX4_searches_33 (by decide) (by decide) (by decide) (fun h33 => ?_) (fun h33 => ?_)
    · skip
      exact absurd h33 (by decide)
    · skip
      refine v_iload_n 2 dX4_searches_36 rfl rfl ?_
      refine v_iload_n 3 dX4_searches_37 rfl rfl ?_
      refine v_iload_n 2 dX4_searches_38 rfl rfl ?_
      refine v_isub dX4_searches_39 ?_
      refine o_eqI (u := 7) (by decide) ?_
      refine v_iconst dX4_searches_40 ?_
      refine v_iadd dX4_searches_41 ?_
      refine o_eqI (u := 8) (by decide) ?_
      refine v_iconst dX4_searches_42 ?_
      refine v_idiv dX4_searches_43 (by decide) (by decide) (by omega) ?_
      refine o_eqI (u := 4) (by decide) ?_
      refine v_iadd dX4_searches_44 ?_
      refine o_eqI (u := 4) (by decide) ?_
      refine v_ist5 dX4_searches_45 rfl ?_
      refine v_iinc4 dX4_searches_47 rfl ?_
      refine v_aload_n 0 dX4_searches_50 rfl rfl ?_
      refine v_iload_n 2 dX4_searches_51 rfl rfl ?_
      refine v_iload dX4_searches_52 rfl ?_
      refine v_iconst dX4_searches_54 ?_
      refine v_isub dX4_searches_55 ?_
      refine o_eqI (u := 3) (by decide) ?_
      refine oVq2 4 (c_X4_isHeard (a := 0) (n := 4) hLN hvN hI rfl rfl (by decide) (by decide)) k0_X4_isHeard ki_X4_isHeard ml_X4_207 (rfl : SH 110 = _) (by decide) (vRo_of hxR (by decide) (by decide)) dX4_searches_56 (Nat.le_of_ble_eq_true rfl) (fun N hN => ?_)
      have hA := fr_tr hA hN (fun i h => h)
      have hLN := fr_lay hA hLM
      have hvN : N.1 111 = v := (hA.2 111 (by decide)).trans hv
      refine v_if_eq 70 dX4_searches_59 (by decide) (bP_R _) (fun h59 => ?_) (fun h59 => ?_)
      · skip
        have ga : sFa v = 4 := by rw [sFa, if_neg (bP_0.mp h59)]
        refine v_iload dX4_searches_70 rfl ?_
        refine v_ist2 dX4_searches_72 rfl ?_
        refine v_goto 31 dX4_searches_73 (by decide) ?_
        refine v_iload_n 2 dX4_searches_31 rfl rfl ?_
        refine v_iload_n 3 dX4_searches_32 rfl rfl ?_
        refine v_icmp_ge 76 dX4_searches_33 (by decide) (by decide) (by decide) (fun h33 => ?_) (fun h33 => ?_)
        · skip
          exact absurd h33 (by decide)
        · skip
          refine v_iload_n 2 dX4_searches_36 rfl rfl ?_
          refine v_iload_n 3 dX4_searches_37 rfl rfl ?_
          refine v_iload_n 2 dX4_searches_38 rfl rfl ?_
          refine v_isub dX4_searches_39 ?_
          refine o_eqI (u := 3) (by decide) ?_
          refine v_iconst dX4_searches_40 ?_
          refine v_iadd dX4_searches_41 ?_
          refine o_eqI (u := 4) (by decide) ?_
          refine v_iconst dX4_searches_42 ?_
          refine v_idiv dX4_searches_43 (by decide) (by decide) (by omega) ?_
          refine o_eqI (u := 2) (by decide) ?_
          refine v_iadd dX4_searches_44 ?_
          refine o_eqI (u := 6) (by decide) ?_
          refine v_ist5 dX4_searches_45 rfl ?_
          refine v_iinc4 dX4_searches_47 rfl ?_
          refine v_aload_n 0 dX4_searches_50 rfl rfl ?_
          refine v_iload_n 2 dX4_searches_51 rfl rfl ?_
          refine v_iload dX4_searches_52 rfl ?_
          refine v_iconst dX4_searches_54 ?_
          refine v_isub dX4_searches_55 ?_
          refine o_eqI (u := 5) (by decide) ?_
          refine oVq2 4 (c_X4_isHeard (a := 4) (n := 2) hLN hvN hI rfl rfl (by decide) (by decide)) k0_X4_isHeard ki_X4_isHeard ml_X4_207 (rfl : SH 110 = _) (by decide) (vRo_of hxR (by decide) (by decide)) dX4_searches_56 (Nat.le_of_ble_eq_true rfl) (fun N hN => ?_)
          have hA := fr_tr hA hN (fun i h => h)
          have hLN := fr_lay hA hLM
          have hvN : N.1 111 = v := (hA.2 111 (by decide)).trans hv
          refine v_if_eq 70 dX4_searches_59 (by decide) (bP_R _) (fun h59 => ?_) (fun h59 => ?_)
          · skip
            have gb : sFb v = 6 := by rw [sFb, ga, if_neg (bP_0.mp h59)]
            refine v_iload dX4_searches_70 rfl ?_
            refine v_ist2 dX4_searches_72 rfl ?_
            refine v_goto 31 dX4_searches_73 (by decide) ?_
            refine v_iload_n 2 dX4_searches_31 rfl rfl ?_
            refine v_iload_n 3 dX4_searches_32 rfl rfl ?_
            refine v_icmp_ge 76 dX4_searches_33 (by decide) (by decide) (by decide) (fun h33 => ?_) (fun h33 => ?_)
            · skip
              exact absurd h33 (by decide)
            · skip
              refine v_iload_n 2 dX4_searches_36 rfl rfl ?_
              refine v_iload_n 3 dX4_searches_37 rfl rfl ?_
              refine v_iload_n 2 dX4_searches_38 rfl rfl ?_
              refine v_isub dX4_searches_39 ?_
              refine o_eqI (u := 1) (by decide) ?_
              refine v_iconst dX4_searches_40 ?_
              refine v_iadd dX4_searches_41 ?_
              refine o_eqI (u := 2) (by decide) ?_
              refine v_iconst dX4_searches_42 ?_
              refine v_idiv dX4_searches_43 (by decide) (by decide) (by omega) ?_
              refine o_eqI (u := 1) (by decide) ?_
              refine v_iadd dX4_searches_44 ?_
              refine o_eqI (u := 7) (by decide) ?_
              refine v_ist5 dX4_searches_45 rfl ?_
              refine v_iinc4 dX4_searches_47 rfl ?_
              refine v_aload_n 0 dX4_searches_50 rfl rfl ?_
              refine v_iload_n 2 dX4_searches_51 rfl rfl ?_
              refine v_iload dX4_searches_52 rfl ?_
              refine v_iconst dX4_searches_54 ?_
              refine v_isub dX4_searches_55 ?_
              refine o_eqI (u := 6) (by decide) ?_
              refine oVq2 4 (c_X4_isHeard (a := 6) (n := 1) hLN hvN hI rfl rfl (by decide) (by decide)) k0_X4_isHeard ki_X4_isHeard ml_X4_207 (rfl : SH 110 = _) (by decide) (vRo_of hxR (by decide) (by decide)) dX4_searches_56 (Nat.le_of_ble_eq_true rfl) (fun N hN => ?_)
              have hA := fr_tr hA hN (fun i h => h)
              have hLN := fr_lay hA hLM
              have hvN : N.1 111 = v := (hA.2 111 (by decide)).trans hv
              refine v_if_eq 70 dX4_searches_59 (by decide) (bP_R _) (fun h59 => ?_) (fun h59 => ?_)
              · skip
                have gd : sFd v = 7 := by rw [sFd, gb, if_neg (bP_0.mp h59)]
                refine v_iload dX4_searches_70 rfl ?_
                refine v_ist2 dX4_searches_72 rfl ?_
                refine v_goto 31 dX4_searches_73 (by decide) ?_
                refine v_iload_n 2 dX4_searches_31 rfl rfl ?_
                refine v_iload_n 3 dX4_searches_32 rfl rfl ?_
                refine v_icmp_ge 76 dX4_searches_33 (by decide) (by decide) (by decide) (fun h33 => ?_) (fun h33 => ?_)
                · skip
                  refine v_iload_n 1 dX4_searches_76 rfl rfl ?_
                  refine v_if_ne 84 dX4_searches_77 (by decide) (by omega) (fun h77 => ?_) (fun h77 => ?_)
                  · skip
                    refine v_iload_n 1 dX4_searches_84 rfl rfl ?_
                    refine v_iconst dX4_searches_85 ?_
                    refine v_icmp_ne 94 dX4_searches_86 (by decide) (by omega) (by decide) (fun h86 => ?_) (fun h86 => ?_)
                    · skip
                      refine v_aload_n 0 dX4_searches_94 rfl rfl ?_
                      refine v_getR lk_X4_7 rfl (rfl : SH 110 = _) (mo_0 hLN) dX4_searches_95 ?_
                      refine v_sipush dX4_searches_98 (by decide) ?_
                      refine v_iload_n 2 dX4_searches_101 rfl rfl ?_
                      refine v_iadd dX4_searches_102 ?_
                      refine o_eqI (u := 263) (by decide) ?_
                      refine o_iald (j := 263) (u := (((v (256 + sFd v)).toNat : Nat) : Int)) (rfl : SH 111 = _) (by omega) (by omega) (by rw [hvN, gd]; have := (iv_st hI (show 7 < 8 by decide)).2.2.2.2; show v (256 + 7) = _; omega) dX4_searches_103 ?_
                      refine oSv1 (c_X4_lowestOf (by have := (iv_st hI (show sFd v < 8 by rw [gd]; decide)).2.2.2.2; omega)) k0_X4_lowestOf ki_X4_lowestOf ml_X4_210 (vRo_of hxR (by decide) (by decide)) dX4_searches_104 (Nat.le_of_ble_eq_true rfl) ?_
                      refine o_iret hQ hlk hrt dX4_searches_107 ?_
                      first | exact ⟨by rw [sSearch, if_neg g0, if_pos (by omega), gd]; rfl, hA⟩ | exact ⟨by rw [sSearch, if_neg g0, if_neg (by omega), if_pos (by omega)]; rfl, hA⟩ | exact ⟨by rw [sSearch, if_neg g0, if_neg (by omega), if_neg (by omega)], hA⟩
                    · skip
                      refine v_iload dX4_searches_89 rfl ?_
                      refine v_goto 107 dX4_searches_91 (by decide) ?_
                      refine o_iret hQ hlk hrt dX4_searches_107 ?_
                      first | exact ⟨by rw [sSearch, if_neg g0, if_pos (by omega), gd]; rfl, hA⟩ | exact ⟨by rw [sSearch, if_neg g0, if_neg (by omega), if_pos (by omega)]; rfl, hA⟩ | exact ⟨by rw [sSearch, if_neg g0, if_neg (by omega), if_neg (by omega)], hA⟩
                  · skip
                    refine v_iload_n 2 dX4_searches_80 rfl rfl ?_
                    refine v_goto 107 dX4_searches_81 (by decide) ?_
                    refine o_iret hQ hlk hrt dX4_searches_107 ?_
                    first | exact ⟨by rw [sSearch, if_neg g0, if_pos (by omega), gd]; rfl, hA⟩ | exact ⟨by rw [sSearch, if_neg g0, if_neg (by omega), if_pos (by omega)]; rfl, hA⟩ | exact ⟨by rw [sSearch, if_neg g0, if_neg (by omega), if_neg (by omega)], hA⟩
                · skip
                  exact absurd h33 (by decide)
              · skip
                have gd : sFd v = 6 := by rw [sFd, gb, if_pos (bP_n0.mp h59)]
                refine v_iload dX4_searches_62 rfl ?_
                refine v_iconst dX4_searches_64 ?_
                refine v_isub dX4_searches_65 ?_
                refine o_eqI (u := 6) (by decide) ?_
                refine v_ist3 dX4_searches_66 rfl ?_
                refine v_goto 73 dX4_searches_67 (by decide) ?_
                refine v_goto 31 dX4_searches_73 (by decide) ?_
                refine v_iload_n 2 dX4_searches_31 rfl rfl ?_
                refine v_iload_n 3 dX4_searches_32 rfl rfl ?_
                refine v_icmp_ge 76 dX4_searches_33 (by decide) (by decide) (by decide) (fun h33 => ?_) (fun h33 => ?_)
                · skip
                  refine v_iload_n 1 dX4_searches_76 rfl rfl ?_
                  refine v_if_ne 84 dX4_searches_77 (by decide) (by omega) (fun h77 => ?_) (fun h77 => ?_)
                  · skip
                    refine v_iload_n 1 dX4_searches_84 rfl rfl ?_
                    refine v_iconst dX4_searches_85 ?_
                    refine v_icmp_ne 94 dX4_searches_86 (by decide) (by omega) (by decide) (fun h86 => ?_) (fun h86 => ?_)
                    · skip
                      refine v_aload_n 0 dX4_searches_94 rfl rfl ?_
                      refine v_getR lk_X4_7 rfl (rfl : SH 110 = _) (mo_0 hLN) dX4_searches_95 ?_
                      refine v_sipush dX4_searches_98 (by decide) ?_
                      refine v_iload_n 2 dX4_searches_101 rfl rfl ?_
                      refine v_iadd dX4_searches_102 ?_
                      refine o_eqI (u := 262) (by decide) ?_
                      refine o_iald (j := 262) (u := (((v (256 + sFd v)).toNat : Nat) : Int)) (rfl : SH 111 = _) (by omega) (by omega) (by rw [hvN, gd]; have := (iv_st hI (show 6 < 8 by decide)).2.2.2.2; show v (256 + 6) = _; omega) dX4_searches_103 ?_
                      refine oSv1 (c_X4_lowestOf (by have := (iv_st hI (show sFd v < 8 by rw [gd]; decide)).2.2.2.2; omega)) k0_X4_lowestOf ki_X4_lowestOf ml_X4_210 (vRo_of hxR (by decide) (by decide)) dX4_searches_104 (Nat.le_of_ble_eq_true rfl) ?_
                      refine o_iret hQ hlk hrt dX4_searches_107 ?_
                      first | exact ⟨by rw [sSearch, if_neg g0, if_pos (by omega), gd]; rfl, hA⟩ | exact ⟨by rw [sSearch, if_neg g0, if_neg (by omega), if_pos (by omega)]; rfl, hA⟩ | exact ⟨by rw [sSearch, if_neg g0, if_neg (by omega), if_neg (by omega)], hA⟩
                    · skip
                      refine v_iload dX4_searches_89 rfl ?_
                      refine v_goto 107 dX4_searches_91 (by decide) ?_
                      refine o_iret hQ hlk hrt dX4_searches_107 ?_
                      first | exact ⟨by rw [sSearch, if_neg g0, if_pos (by omega), gd]; rfl, hA⟩ | exact ⟨by rw [sSearch, if_neg g0, if_neg (by omega), if_pos (by omega)]; rfl, hA⟩ | exact ⟨by rw [sSearch, if_neg g0, if_neg (by omega), if_neg (by omega)], hA⟩
                  · skip
                    refine v_iload_n 2 dX4_searches_80 rfl rfl ?_
                    refine v_goto 107 dX4_searches_81 (by decide) ?_
                    refine o_iret hQ hlk hrt dX4_searches_107 ?_
                    first | exact ⟨by rw [sSearch, if_neg g0, if_pos (by omega), gd]; rfl, hA⟩ | exact ⟨by rw [sSearch, if_neg g0, if_neg (by omega), if_pos (by omega)]; rfl, hA⟩ | exact ⟨by rw [sSearch, if_neg g0, if_neg (by omega), if_neg (by omega)], hA⟩
                · skip
                  exact absurd h33 (by decide)
          · skip
            have gb : sFb v = 4 := by rw [sFb, ga, if_pos (bP_n0.mp h59)]
            refine v_iload dX4_searches_62 rfl ?_
            refine v_iconst dX4_searches_64 ?_
            refine v_isub dX4_searches_65 ?_
            refine o_eqI (u := 5) (by decide) ?_
            refine v_ist3 dX4_searches_66 rfl ?_
            refine v_goto 73 dX4_searches_67 (by decide) ?_
            refine v_goto 31 dX4_searches_73 (by decide) ?_
            refine v_iload_n 2 dX4_searches_31 rfl rfl ?_
            refine v_iload_n 3 dX4_searches_32 rfl rfl ?_
            refine v_icmp_ge 76 dX4_searches_33 (by decide) (by decide) (by decide) (fun h33 => ?_) (fun h33 => ?_)
            · skip
              exact absurd h33 (by decide)
            · skip
              refine v_iload_n 2 dX4_searches_36 rfl rfl ?_
              refine v_iload_n 3 dX4_searches_37 rfl rfl ?_
              refine v_iload_n 2 dX4_searches_38 rfl rfl ?_
              refine v_isub dX4_searches_39 ?_
              refine o_eqI (u := 1) (by decide) ?_
              refine v_iconst dX4_searches_40 ?_
              refine v_iadd dX4_searches_41 ?_
              refine o_eqI (u := 2) (by decide) ?_
              refine v_iconst dX4_searches_42 ?_
              refine v_idiv dX4_searches_43 (by decide) (by decide) (by omega) ?_
              refine o_eqI (u := 1) (by decide) ?_
              refine v_iadd dX4_searches_44 ?_
              refine o_eqI (u := 5) (by decide) ?_
              refine v_ist5 dX4_searches_45 rfl ?_
              refine v_iinc4 dX4_searches_47 rfl ?_
              refine v_aload_n 0 dX4_searches_50 rfl rfl ?_
              refine v_iload_n 2 dX4_searches_51 rfl rfl ?_
              refine v_iload dX4_searches_52 rfl ?_
              refine v_iconst dX4_searches_54 ?_
              refine v_isub dX4_searches_55 ?_
              refine o_eqI (u := 4) (by decide) ?_
              refine oVq2 4 (c_X4_isHeard (a := 4) (n := 1) hLN hvN hI rfl rfl (by decide) (by decide)) k0_X4_isHeard ki_X4_isHeard ml_X4_207 (rfl : SH 110 = _) (by decide) (vRo_of hxR (by decide) (by decide)) dX4_searches_56 (Nat.le_of_ble_eq_true rfl) (fun N hN => ?_)
              have hA := fr_tr hA hN (fun i h => h)
              have hLN := fr_lay hA hLM
              have hvN : N.1 111 = v := (hA.2 111 (by decide)).trans hv
              refine v_if_eq 70 dX4_searches_59 (by decide) (bP_R _) (fun h59 => ?_) (fun h59 => ?_)
              · skip
                have gd : sFd v = 5 := by rw [sFd, gb, if_neg (bP_0.mp h59)]
                refine v_iload dX4_searches_70 rfl ?_
                refine v_ist2 dX4_searches_72 rfl ?_
                refine v_goto 31 dX4_searches_73 (by decide) ?_
                refine v_iload_n 2 dX4_searches_31 rfl rfl ?_
                refine v_iload_n 3 dX4_searches_32 rfl rfl ?_
                refine v_icmp_ge 76 dX4_searches_33 (by decide) (by decide) (by decide) (fun h33 => ?_) (fun h33 => ?_)
                · skip
                  refine v_iload_n 1 dX4_searches_76 rfl rfl ?_
                  refine v_if_ne 84 dX4_searches_77 (by decide) (by omega) (fun h77 => ?_) (fun h77 => ?_)
                  · skip
                    refine v_iload_n 1 dX4_searches_84 rfl rfl ?_
                    refine v_iconst dX4_searches_85 ?_
                    refine v_icmp_ne 94 dX4_searches_86 (by decide) (by omega) (by decide) (fun h86 => ?_) (fun h86 => ?_)
                    · skip
                      refine v_aload_n 0 dX4_searches_94 rfl rfl ?_
                      refine v_getR lk_X4_7 rfl (rfl : SH 110 = _) (mo_0 hLN) dX4_searches_95 ?_
                      refine v_sipush dX4_searches_98 (by decide) ?_
                      refine v_iload_n 2 dX4_searches_101 rfl rfl ?_
                      refine v_iadd dX4_searches_102 ?_
                      refine o_eqI (u := 261) (by decide) ?_
                      refine o_iald (j := 261) (u := (((v (256 + sFd v)).toNat : Nat) : Int)) (rfl : SH 111 = _) (by omega) (by omega) (by rw [hvN, gd]; have := (iv_st hI (show 5 < 8 by decide)).2.2.2.2; show v (256 + 5) = _; omega) dX4_searches_103 ?_
                      refine oSv1 (c_X4_lowestOf (by have := (iv_st hI (show sFd v < 8 by rw [gd]; decide)).2.2.2.2; omega)) k0_X4_lowestOf ki_X4_lowestOf ml_X4_210 (vRo_of hxR (by decide) (by decide)) dX4_searches_104 (Nat.le_of_ble_eq_true rfl) ?_
                      refine o_iret hQ hlk hrt dX4_searches_107 ?_
                      first | exact ⟨by rw [sSearch, if_neg g0, if_pos (by omega), gd]; rfl, hA⟩ | exact ⟨by rw [sSearch, if_neg g0, if_neg (by omega), if_pos (by omega)]; rfl, hA⟩ | exact ⟨by rw [sSearch, if_neg g0, if_neg (by omega), if_neg (by omega)], hA⟩
                    · skip
                      refine v_iload dX4_searches_89 rfl ?_
                      refine v_goto 107 dX4_searches_91 (by decide) ?_
                      refine o_iret hQ hlk hrt dX4_searches_107 ?_
                      first | exact ⟨by rw [sSearch, if_neg g0, if_pos (by omega), gd]; rfl, hA⟩ | exact ⟨by rw [sSearch, if_neg g0, if_neg (by omega), if_pos (by omega)]; rfl, hA⟩ | exact ⟨by rw [sSearch, if_neg g0, if_neg (by omega), if_neg (by omega)], hA⟩
                  · skip
                    refine v_iload_n 2 dX4_searches_80 rfl rfl ?_
                    refine v_goto 107 dX4_searches_81 (by decide) ?_
                    refine o_iret hQ hlk hrt dX4_searches_107 ?_
                    first | exact ⟨by rw [sSearch, if_neg g0, if_pos (by omega), gd]; rfl, hA⟩ | exact ⟨by rw [sSearch, if_neg g0, if_neg (by omega), if_pos (by omega)]; rfl, hA⟩ | exact ⟨by rw [sSearch, if_neg g0, if_neg (by omega), if_neg (by omega)], hA⟩
                · skip
                  exact absurd h33 (by decide)
              · skip
                have gd : sFd v = 4 := by rw [sFd, gb, if_pos (bP_n0.mp h59)]
                refine v_iload dX4_searches_62 rfl ?_
                refine v_iconst dX4_searches_64 ?_
                refine v_isub dX4_searches_65 ?_
                refine o_eqI (u := 4) (by decide) ?_
                refine v_ist3 dX4_searches_66 rfl ?_
                refine v_goto 73 dX4_searches_67 (by decide) ?_
                refine v_goto 31 dX4_searches_73 (by decide) ?_
                refine v_iload_n 2 dX4_searches_31 rfl rfl ?_
                refine v_iload_n 3 dX4_searches_32 rfl rfl ?_
                refine v_icmp_ge 76 dX4_searches_33 (by decide) (by decide) (by decide) (fun h33 => ?_) (fun h33 => ?_)
                · skip
                  refine v_iload_n 1 dX4_searches_76 rfl rfl ?_
                  refine v_if_ne 84 dX4_searches_77 (by decide) (by omega) (fun h77 => ?_) (fun h77 => ?_)
                  · skip
                    refine v_iload_n 1 dX4_searches_84 rfl rfl ?_
                    refine v_iconst dX4_searches_85 ?_
                    refine v_icmp_ne 94 dX4_searches_86 (by decide) (by omega) (by decide) (fun h86 => ?_) (fun h86 => ?_)
                    · skip
                      refine v_aload_n 0 dX4_searches_94 rfl rfl ?_
                      refine v_getR lk_X4_7 rfl (rfl : SH 110 = _) (mo_0 hLN) dX4_searches_95 ?_
                      refine v_sipush dX4_searches_98 (by decide) ?_
                      refine v_iload_n 2 dX4_searches_101 rfl rfl ?_
                      refine v_iadd dX4_searches_102 ?_
                      refine o_eqI (u := 260) (by decide) ?_
                      refine o_iald (j := 260) (u := (((v (256 + sFd v)).toNat : Nat) : Int)) (rfl : SH 111 = _) (by omega) (by omega) (by rw [hvN, gd]; have := (iv_st hI (show 4 < 8 by decide)).2.2.2.2; show v (256 + 4) = _; omega) dX4_searches_103 ?_
                      refine oSv1 (c_X4_lowestOf (by have := (iv_st hI (show sFd v < 8 by rw [gd]; decide)).2.2.2.2; omega)) k0_X4_lowestOf ki_X4_lowestOf ml_X4_210 (vRo_of hxR (by decide) (by decide)) dX4_searches_104 (Nat.le_of_ble_eq_true rfl) ?_
                      refine o_iret hQ hlk hrt dX4_searches_107 ?_
                      first | exact ⟨by rw [sSearch, if_neg g0, if_pos (by omega), gd]; rfl, hA⟩ | exact ⟨by rw [sSearch, if_neg g0, if_neg (by omega), if_pos (by omega)]; rfl, hA⟩ | exact ⟨by rw [sSearch, if_neg g0, if_neg (by omega), if_neg (by omega)], hA⟩
                    · skip
                      refine v_iload dX4_searches_89 rfl ?_
                      refine v_goto 107 dX4_searches_91 (by decide) ?_
                      refine o_iret hQ hlk hrt dX4_searches_107 ?_
                      first | exact ⟨by rw [sSearch, if_neg g0, if_pos (by omega), gd]; rfl, hA⟩ | exact ⟨by rw [sSearch, if_neg g0, if_neg (by omega), if_pos (by omega)]; rfl, hA⟩ | exact ⟨by rw [sSearch, if_neg g0, if_neg (by omega), if_neg (by omega)], hA⟩
                  · skip
                    refine v_iload_n 2 dX4_searches_80 rfl rfl ?_
                    refine v_goto 107 dX4_searches_81 (by decide) ?_
                    refine o_iret hQ hlk hrt dX4_searches_107 ?_
                    first | exact ⟨by rw [sSearch, if_neg g0, if_pos (by omega), gd]; rfl, hA⟩ | exact ⟨by rw [sSearch, if_neg g0, if_neg (by omega), if_pos (by omega)]; rfl, hA⟩ | exact ⟨by rw [sSearch, if_neg g0, if_neg (by omega), if_neg (by omega)], hA⟩
                · skip
                  exact absurd h33 (by decide)
      · skip
        have ga : sFa v = 0 := by rw [sFa, if_pos (bP_n0.mp h59)]
        refine v_iload dX4_searches_62 rfl ?_
        refine v_iconst dX4_searches_64 ?_
        refine v_isub dX4_searches_65 ?_
        refine o_eqI (u := 3) (by decide) ?_
        refine v_ist3 dX4_searches_66 rfl ?_
        refine v_goto 73 dX4_searches_67 (by decide) ?_
        refine v_goto 31 dX4_searches_73 (by decide) ?_
        refine v_iload_n 2 dX4_searches_31 rfl rfl ?_
        refine v_iload_n 3 dX4_searches_32 rfl rfl ?_
        refine v_icmp_ge 76 dX4_searches_33 (by decide) (by decide) (by decide) (fun h33 => ?_) (fun h33 => ?_)
        · skip
          exact absurd h33 (by decide)
        · skip
          refine v_iload_n 2 dX4_searches_36 rfl rfl ?_
          refine v_iload_n 3 dX4_searches_37 rfl rfl ?_
          refine v_iload_n 2 dX4_searches_38 rfl rfl ?_
          refine v_isub dX4_searches_39 ?_
          refine o_eqI (u := 3) (by decide) ?_
          refine v_iconst dX4_searches_40 ?_
          refine v_iadd dX4_searches_41 ?_
          refine o_eqI (u := 4) (by decide) ?_
          refine v_iconst dX4_searches_42 ?_
          refine v_idiv dX4_searches_43 (by decide) (by decide) (by omega) ?_
          refine o_eqI (u := 2) (by decide) ?_
          refine v_iadd dX4_searches_44 ?_
          refine o_eqI (u := 2) (by decide) ?_
          refine v_ist5 dX4_searches_45 rfl ?_
          refine v_iinc4 dX4_searches_47 rfl ?_
          refine v_aload_n 0 dX4_searches_50 rfl rfl ?_
          refine v_iload_n 2 dX4_searches_51 rfl rfl ?_
          refine v_iload dX4_searches_52 rfl ?_
          refine v_iconst dX4_searches_54 ?_
          refine v_isub dX4_searches_55 ?_
          refine o_eqI (u := 1) (by decide) ?_
          refine oVq2 4 (c_X4_isHeard (a := 0) (n := 2) hLN hvN hI rfl rfl (by decide) (by decide)) k0_X4_isHeard ki_X4_isHeard ml_X4_207 (rfl : SH 110 = _) (by decide) (vRo_of hxR (by decide) (by decide)) dX4_searches_56 (Nat.le_of_ble_eq_true rfl) (fun N hN => ?_)
          have hA := fr_tr hA hN (fun i h => h)
          have hLN := fr_lay hA hLM
          have hvN : N.1 111 = v := (hA.2 111 (by decide)).trans hv
          refine v_if_eq 70 dX4_searches_59 (by decide) (bP_R _) (fun h59 => ?_) (fun h59 => ?_)
          · skip
            have gb : sFb v = 2 := by rw [sFb, ga, if_neg (bP_0.mp h59)]
            refine v_iload dX4_searches_70 rfl ?_
            refine v_ist2 dX4_searches_72 rfl ?_
            refine v_goto 31 dX4_searches_73 (by decide) ?_
            refine v_iload_n 2 dX4_searches_31 rfl rfl ?_
            refine v_iload_n 3 dX4_searches_32 rfl rfl ?_
            refine v_icmp_ge 76 dX4_searches_33 (by decide) (by decide) (by decide) (fun h33 => ?_) (fun h33 => ?_)
            · skip
              exact absurd h33 (by decide)
            · skip
              refine v_iload_n 2 dX4_searches_36 rfl rfl ?_
              refine v_iload_n 3 dX4_searches_37 rfl rfl ?_
              refine v_iload_n 2 dX4_searches_38 rfl rfl ?_
              refine v_isub dX4_searches_39 ?_
              refine o_eqI (u := 1) (by decide) ?_
              refine v_iconst dX4_searches_40 ?_
              refine v_iadd dX4_searches_41 ?_
              refine o_eqI (u := 2) (by decide) ?_
              refine v_iconst dX4_searches_42 ?_
              refine v_idiv dX4_searches_43 (by decide) (by decide) (by omega) ?_
              refine o_eqI (u := 1) (by decide) ?_
              refine v_iadd dX4_searches_44 ?_
              refine o_eqI (u := 3) (by decide) ?_
              refine v_ist5 dX4_searches_45 rfl ?_
              refine v_iinc4 dX4_searches_47 rfl ?_
              refine v_aload_n 0 dX4_searches_50 rfl rfl ?_
              refine v_iload_n 2 dX4_searches_51 rfl rfl ?_
              refine v_iload dX4_searches_52 rfl ?_
              refine v_iconst dX4_searches_54 ?_
              refine v_isub dX4_searches_55 ?_
              refine o_eqI (u := 2) (by decide) ?_
              refine oVq2 4 (c_X4_isHeard (a := 2) (n := 1) hLN hvN hI rfl rfl (by decide) (by decide)) k0_X4_isHeard ki_X4_isHeard ml_X4_207 (rfl : SH 110 = _) (by decide) (vRo_of hxR (by decide) (by decide)) dX4_searches_56 (Nat.le_of_ble_eq_true rfl) (fun N hN => ?_)
              have hA := fr_tr hA hN (fun i h => h)
              have hLN := fr_lay hA hLM
              have hvN : N.1 111 = v := (hA.2 111 (by decide)).trans hv
              refine v_if_eq 70 dX4_searches_59 (by decide) (bP_R _) (fun h59 => ?_) (fun h59 => ?_)
              · skip
                have gd : sFd v = 3 := by rw [sFd, gb, if_neg (bP_0.mp h59)]
                refine v_iload dX4_searches_70 rfl ?_
                refine v_ist2 dX4_searches_72 rfl ?_
                refine v_goto 31 dX4_searches_73 (by decide) ?_
                refine v_iload_n 2 dX4_searches_31 rfl rfl ?_
                refine v_iload_n 3 dX4_searches_32 rfl rfl ?_
                refine v_icmp_ge 76 dX4_searches_33 (by decide) (by decide) (by decide) (fun h33 => ?_) (fun h33 => ?_)
                · skip
                  refine v_iload_n 1 dX4_searches_76 rfl rfl ?_
                  refine v_if_ne 84 dX4_searches_77 (by decide) (by omega) (fun h77 => ?_) (fun h77 => ?_)
                  · skip
                    refine v_iload_n 1 dX4_searches_84 rfl rfl ?_
                    refine v_iconst dX4_searches_85 ?_
                    refine v_icmp_ne 94 dX4_searches_86 (by decide) (by omega) (by decide) (fun h86 => ?_) (fun h86 => ?_)
                    · skip
                      refine v_aload_n 0 dX4_searches_94 rfl rfl ?_
                      refine v_getR lk_X4_7 rfl (rfl : SH 110 = _) (mo_0 hLN) dX4_searches_95 ?_
                      refine v_sipush dX4_searches_98 (by decide) ?_
                      refine v_iload_n 2 dX4_searches_101 rfl rfl ?_
                      refine v_iadd dX4_searches_102 ?_
                      refine o_eqI (u := 259) (by decide) ?_
                      refine o_iald (j := 259) (u := (((v (256 + sFd v)).toNat : Nat) : Int)) (rfl : SH 111 = _) (by omega) (by omega) (by rw [hvN, gd]; have := (iv_st hI (show 3 < 8 by decide)).2.2.2.2; show v (256 + 3) = _; omega) dX4_searches_103 ?_
                      refine oSv1 (c_X4_lowestOf (by have := (iv_st hI (show sFd v < 8 by rw [gd]; decide)).2.2.2.2; omega)) k0_X4_lowestOf ki_X4_lowestOf ml_X4_210 (vRo_of hxR (by decide) (by decide)) dX4_searches_104 (Nat.le_of_ble_eq_true rfl) ?_
                      refine o_iret hQ hlk hrt dX4_searches_107 ?_
                      first | exact ⟨by rw [sSearch, if_neg g0, if_pos (by omega), gd]; rfl, hA⟩ | exact ⟨by rw [sSearch, if_neg g0, if_neg (by omega), if_pos (by omega)]; rfl, hA⟩ | exact ⟨by rw [sSearch, if_neg g0, if_neg (by omega), if_neg (by omega)], hA⟩
                    · skip
                      refine v_iload dX4_searches_89 rfl ?_
                      refine v_goto 107 dX4_searches_91 (by decide) ?_
                      refine o_iret hQ hlk hrt dX4_searches_107 ?_
                      first | exact ⟨by rw [sSearch, if_neg g0, if_pos (by omega), gd]; rfl, hA⟩ | exact ⟨by rw [sSearch, if_neg g0, if_neg (by omega), if_pos (by omega)]; rfl, hA⟩ | exact ⟨by rw [sSearch, if_neg g0, if_neg (by omega), if_neg (by omega)], hA⟩
                  · skip
                    refine v_iload_n 2 dX4_searches_80 rfl rfl ?_
                    refine v_goto 107 dX4_searches_81 (by decide) ?_
                    refine o_iret hQ hlk hrt dX4_searches_107 ?_
                    first | exact ⟨by rw [sSearch, if_neg g0, if_pos (by omega), gd]; rfl, hA⟩ | exact ⟨by rw [sSearch, if_neg g0, if_neg (by omega), if_pos (by omega)]; rfl, hA⟩ | exact ⟨by rw [sSearch, if_neg g0, if_neg (by omega), if_neg (by omega)], hA⟩
                · skip
                  exact absurd h33 (by decide)
              · skip
                have gd : sFd v = 2 := by rw [sFd, gb, if_pos (bP_n0.mp h59)]
                refine v_iload dX4_searches_62 rfl ?_
                refine v_iconst dX4_searches_64 ?_
                refine v_isub dX4_searches_65 ?_
                refine o_eqI (u := 2) (by decide) ?_
                refine v_ist3 dX4_searches_66 rfl ?_
                refine v_goto 73 dX4_searches_67 (by decide) ?_
                refine v_goto 31 dX4_searches_73 (by decide) ?_
                refine v_iload_n 2 dX4_searches_31 rfl rfl ?_
                refine v_iload_n 3 dX4_searches_32 rfl rfl ?_
                refine v_icmp_ge 76 dX4_searches_33 (by decide) (by decide) (by decide) (fun h33 => ?_) (fun h33 => ?_)
                · skip
                  refine v_iload_n 1 dX4_searches_76 rfl rfl ?_
                  refine v_if_ne 84 dX4_searches_77 (by decide) (by omega) (fun h77 => ?_) (fun h77 => ?_)
                  · skip
                    refine v_iload_n 1 dX4_searches_84 rfl rfl ?_
                    refine v_iconst dX4_searches_85 ?_
                    refine v_icmp_ne 94 dX4_searches_86 (by decide) (by omega) (by decide) (fun h86 => ?_) (fun h86 => ?_)
                    · skip
                      refine v_aload_n 0 dX4_searches_94 rfl rfl ?_
                      refine v_getR lk_X4_7 rfl (rfl : SH 110 = _) (mo_0 hLN) dX4_searches_95 ?_
                      refine v_sipush dX4_searches_98 (by decide) ?_
                      refine v_iload_n 2 dX4_searches_101 rfl rfl ?_
                      refine v_iadd dX4_searches_102 ?_
                      refine o_eqI (u := 258) (by decide) ?_
                      refine o_iald (j := 258) (u := (((v (256 + sFd v)).toNat : Nat) : Int)) (rfl : SH 111 = _) (by omega) (by omega) (by rw [hvN, gd]; have := (iv_st hI (show 2 < 8 by decide)).2.2.2.2; show v (256 + 2) = _; omega) dX4_searches_103 ?_
                      refine oSv1 (c_X4_lowestOf (by have := (iv_st hI (show sFd v < 8 by rw [gd]; decide)).2.2.2.2; omega)) k0_X4_lowestOf ki_X4_lowestOf ml_X4_210 (vRo_of hxR (by decide) (by decide)) dX4_searches_104 (Nat.le_of_ble_eq_true rfl) ?_
                      refine o_iret hQ hlk hrt dX4_searches_107 ?_
                      first | exact ⟨by rw [sSearch, if_neg g0, if_pos (by omega), gd]; rfl, hA⟩ | exact ⟨by rw [sSearch, if_neg g0, if_neg (by omega), if_pos (by omega)]; rfl, hA⟩ | exact ⟨by rw [sSearch, if_neg g0, if_neg (by omega), if_neg (by omega)], hA⟩
                    · skip
                      refine v_iload dX4_searches_89 rfl ?_
                      refine v_goto 107 dX4_searches_91 (by decide) ?_
                      refine o_iret hQ hlk hrt dX4_searches_107 ?_
                      first | exact ⟨by rw [sSearch, if_neg g0, if_pos (by omega), gd]; rfl, hA⟩ | exact ⟨by rw [sSearch, if_neg g0, if_neg (by omega), if_pos (by omega)]; rfl, hA⟩ | exact ⟨by rw [sSearch, if_neg g0, if_neg (by omega), if_neg (by omega)], hA⟩
                  · skip
                    refine v_iload_n 2 dX4_searches_80 rfl rfl ?_
                    refine v_goto 107 dX4_searches_81 (by decide) ?_
                    refine o_iret hQ hlk hrt dX4_searches_107 ?_
                    first | exact ⟨by rw [sSearch, if_neg g0, if_pos (by omega), gd]; rfl, hA⟩ | exact ⟨by rw [sSearch, if_neg g0, if_neg (by omega), if_pos (by omega)]; rfl, hA⟩ | exact ⟨by rw [sSearch, if_neg g0, if_neg (by omega), if_neg (by omega)], hA⟩
                · skip
                  exact absurd h33 (by decide)
          · skip
            have gb : sFb v = 0 := by rw [sFb, ga, if_pos (bP_n0.mp h59)]
            refine v_iload dX4_searches_62 rfl ?_
            refine v_iconst dX4_searches_64 ?_
            refine v_isub dX4_searches_65 ?_
            refine o_eqI (u := 1) (by decide) ?_
            refine v_ist3 dX4_searches_66 rfl ?_
            refine v_goto 73 dX4_searches_67 (by decide) ?_
            refine v_goto 31 dX4_searches_73 (by decide) ?_
            refine v_iload_n 2 dX4_searches_31 rfl rfl ?_
            refine v_iload_n 3 dX4_searches_32 rfl rfl ?_
            refine v_icmp_ge 76 dX4_searches_33 (by decide) (by decide) (by decide) (fun h33 => ?_) (fun h33 => ?_)
            · skip
              exact absurd h33 (by decide)
            · skip
              refine v_iload_n 2 dX4_searches_36 rfl rfl ?_
              refine v_iload_n 3 dX4_searches_37 rfl rfl ?_
              refine v_iload_n 2 dX4_searches_38 rfl rfl ?_
              refine v_isub dX4_searches_39 ?_
              refine o_eqI (u := 1) (by decide) ?_
              refine v_iconst dX4_searches_40 ?_
              refine v_iadd dX4_searches_41 ?_
              refine o_eqI (u := 2) (by decide) ?_
              refine v_iconst dX4_searches_42 ?_
              refine v_idiv dX4_searches_43 (by decide) (by decide) (by omega) ?_
              refine o_eqI (u := 1) (by decide) ?_
              refine v_iadd dX4_searches_44 ?_
              refine o_eqI (u := 1) (by decide) ?_
              refine v_ist5 dX4_searches_45 rfl ?_
              refine v_iinc4 dX4_searches_47 rfl ?_
              refine v_aload_n 0 dX4_searches_50 rfl rfl ?_
              refine v_iload_n 2 dX4_searches_51 rfl rfl ?_
              refine v_iload dX4_searches_52 rfl ?_
              refine v_iconst dX4_searches_54 ?_
              refine v_isub dX4_searches_55 ?_
              refine o_eqI (u := 0) (by decide) ?_
              refine oVq2 4 (c_X4_isHeard (a := 0) (n := 1) hLN hvN hI rfl rfl (by decide) (by decide)) k0_X4_isHeard ki_X4_isHeard ml_X4_207 (rfl : SH 110 = _) (by decide) (vRo_of hxR (by decide) (by decide)) dX4_searches_56 (Nat.le_of_ble_eq_true rfl) (fun N hN => ?_)
              have hA := fr_tr hA hN (fun i h => h)
              have hLN := fr_lay hA hLM
              have hvN : N.1 111 = v := (hA.2 111 (by decide)).trans hv
              refine v_if_eq 70 dX4_searches_59 (by decide) (bP_R _) (fun h59 => ?_) (fun h59 => ?_)
              · skip
                have gd : sFd v = 1 := by rw [sFd, gb, if_neg (bP_0.mp h59)]
                refine v_iload dX4_searches_70 rfl ?_
                refine v_ist2 dX4_searches_72 rfl ?_
                refine v_goto 31 dX4_searches_73 (by decide) ?_
                refine v_iload_n 2 dX4_searches_31 rfl rfl ?_
                refine v_iload_n 3 dX4_searches_32 rfl rfl ?_
                refine v_icmp_ge 76 dX4_searches_33 (by decide) (by decide) (by decide) (fun h33 => ?_) (fun h33 => ?_)
                · skip
                  refine v_iload_n 1 dX4_searches_76 rfl rfl ?_
                  refine v_if_ne 84 dX4_searches_77 (by decide) (by omega) (fun h77 => ?_) (fun h77 => ?_)
                  · skip
                    refine v_iload_n 1 dX4_searches_84 rfl rfl ?_
                    refine v_iconst dX4_searches_85 ?_
                    refine v_icmp_ne 94 dX4_searches_86 (by decide) (by omega) (by decide) (fun h86 => ?_) (fun h86 => ?_)
                    · skip
                      refine v_aload_n 0 dX4_searches_94 rfl rfl ?_
                      refine v_getR lk_X4_7 rfl (rfl : SH 110 = _) (mo_0 hLN) dX4_searches_95 ?_
                      refine v_sipush dX4_searches_98 (by decide) ?_
                      refine v_iload_n 2 dX4_searches_101 rfl rfl ?_
                      refine v_iadd dX4_searches_102 ?_
                      refine o_eqI (u := 257) (by decide) ?_
                      refine o_iald (j := 257) (u := (((v (256 + sFd v)).toNat : Nat) : Int)) (rfl : SH 111 = _) (by omega) (by omega) (by rw [hvN, gd]; have := (iv_st hI (show 1 < 8 by decide)).2.2.2.2; show v (256 + 1) = _; omega) dX4_searches_103 ?_
                      refine oSv1 (c_X4_lowestOf (by have := (iv_st hI (show sFd v < 8 by rw [gd]; decide)).2.2.2.2; omega)) k0_X4_lowestOf ki_X4_lowestOf ml_X4_210 (vRo_of hxR (by decide) (by decide)) dX4_searches_104 (Nat.le_of_ble_eq_true rfl) ?_
                      refine o_iret hQ hlk hrt dX4_searches_107 ?_
                      first | exact ⟨by rw [sSearch, if_neg g0, if_pos (by omega), gd]; rfl, hA⟩ | exact ⟨by rw [sSearch, if_neg g0, if_neg (by omega), if_pos (by omega)]; rfl, hA⟩ | exact ⟨by rw [sSearch, if_neg g0, if_neg (by omega), if_neg (by omega)], hA⟩
                    · skip
                      refine v_iload dX4_searches_89 rfl ?_
                      refine v_goto 107 dX4_searches_91 (by decide) ?_
                      refine o_iret hQ hlk hrt dX4_searches_107 ?_
                      first | exact ⟨by rw [sSearch, if_neg g0, if_pos (by omega), gd]; rfl, hA⟩ | exact ⟨by rw [sSearch, if_neg g0, if_neg (by omega), if_pos (by omega)]; rfl, hA⟩ | exact ⟨by rw [sSearch, if_neg g0, if_neg (by omega), if_neg (by omega)], hA⟩
                  · skip
                    refine v_iload_n 2 dX4_searches_80 rfl rfl ?_
                    refine v_goto 107 dX4_searches_81 (by decide) ?_
                    refine o_iret hQ hlk hrt dX4_searches_107 ?_
                    first | exact ⟨by rw [sSearch, if_neg g0, if_pos (by omega), gd]; rfl, hA⟩ | exact ⟨by rw [sSearch, if_neg g0, if_neg (by omega), if_pos (by omega)]; rfl, hA⟩ | exact ⟨by rw [sSearch, if_neg g0, if_neg (by omega), if_neg (by omega)], hA⟩
                · skip
                  exact absurd h33 (by decide)
              · skip
                have gd : sFd v = 0 := by rw [sFd, gb, if_pos (bP_n0.mp h59)]
                refine v_iload dX4_searches_62 rfl ?_
                refine v_iconst dX4_searches_64 ?_
                refine v_isub dX4_searches_65 ?_
                refine o_eqI (u := 0) (by decide) ?_
                refine v_ist3 dX4_searches_66 rfl ?_
                refine v_goto 73 dX4_searches_67 (by decide) ?_
                refine v_goto 31 dX4_searches_73 (by decide) ?_
                refine v_iload_n 2 dX4_searches_31 rfl rfl ?_
                refine v_iload_n 3 dX4_searches_32 rfl rfl ?_
                refine v_icmp_ge 76 dX4_searches_33 (by decide) (by decide) (by decide) (fun h33 => ?_) (fun h33 => ?_)
                · skip
                  refine v_iload_n 1 dX4_searches_76 rfl rfl ?_
                  refine v_if_ne 84 dX4_searches_77 (by decide) (by omega) (fun h77 => ?_) (fun h77 => ?_)
                  · skip
                    refine v_iload_n 1 dX4_searches_84 rfl rfl ?_
                    refine v_iconst dX4_searches_85 ?_
                    refine v_icmp_ne 94 dX4_searches_86 (by decide) (by omega) (by decide) (fun h86 => ?_) (fun h86 => ?_)
                    · skip
                      refine v_aload_n 0 dX4_searches_94 rfl rfl ?_
                      refine v_getR lk_X4_7 rfl (rfl : SH 110 = _) (mo_0 hLN) dX4_searches_95 ?_
                      refine v_sipush dX4_searches_98 (by decide) ?_
                      refine v_iload_n 2 dX4_searches_101 rfl rfl ?_
                      refine v_iadd dX4_searches_102 ?_
                      refine o_eqI (u := 256) (by decide) ?_
                      refine o_iald (j := 256) (u := (((v (256 + sFd v)).toNat : Nat) : Int)) (rfl : SH 111 = _) (by omega) (by omega) (by rw [hvN, gd]; have := (iv_st hI (show 0 < 8 by decide)).2.2.2.2; show v (256 + 0) = _; omega) dX4_searches_103 ?_
                      refine oSv1 (c_X4_lowestOf (by have := (iv_st hI (show sFd v < 8 by rw [gd]; decide)).2.2.2.2; omega)) k0_X4_lowestOf ki_X4_lowestOf ml_X4_210 (vRo_of hxR (by decide) (by decide)) dX4_searches_104 (Nat.le_of_ble_eq_true rfl) ?_
                      refine o_iret hQ hlk hrt dX4_searches_107 ?_
                      first | exact ⟨by rw [sSearch, if_neg g0, if_pos (by omega), gd]; rfl, hA⟩ | exact ⟨by rw [sSearch, if_neg g0, if_neg (by omega), if_pos (by omega)]; rfl, hA⟩ | exact ⟨by rw [sSearch, if_neg g0, if_neg (by omega), if_neg (by omega)], hA⟩
                    · skip
                      refine v_iload dX4_searches_89 rfl ?_
                      refine v_goto 107 dX4_searches_91 (by decide) ?_
                      refine o_iret hQ hlk hrt dX4_searches_107 ?_
                      first | exact ⟨by rw [sSearch, if_neg g0, if_pos (by omega), gd]; rfl, hA⟩ | exact ⟨by rw [sSearch, if_neg g0, if_neg (by omega), if_pos (by omega)]; rfl, hA⟩ | exact ⟨by rw [sSearch, if_neg g0, if_neg (by omega), if_neg (by omega)], hA⟩
                  · skip
                    refine v_iload_n 2 dX4_searches_80 rfl rfl ?_
                    refine v_goto 107 dX4_searches_81 (by decide) ?_
                    refine o_iret hQ hlk hrt dX4_searches_107 ?_
                    first | exact ⟨by rw [sSearch, if_neg g0, if_pos (by omega), gd]; rfl, hA⟩ | exact ⟨by rw [sSearch, if_neg g0, if_neg (by omega), if_pos (by omega)]; rfl, hA⟩ | exact ⟨by rw [sSearch, if_neg g0, if_neg (by omega), if_neg (by omega)], hA⟩
                · skip
                  exact absurd h33 (by decide)
  · skip
    have g0 : sH v 0 8 = false := by simpa using bP_0.mp h15
    refine v_iload_n 1 dX4_searches_18 rfl rfl ?_
    refine v_iconst dX4_searches_19 ?_
    refine v_icmp_ne 28 dX4_searches_20 (by decide) (by omega) (by decide) (fun h20 => ?_) (fun h20 => ?_)
    · skip
      refine v_ldc (-1000005) kc_X4_177 (by decide) dX4_searches_28 ?_
      refine o_iret hQ hlk hrt dX4_searches_30 ?_
      first | exact ⟨by rw [sSearch, if_pos g0, if_pos (by omega)], hA⟩ | exact ⟨by rw [sSearch, if_pos g0, if_neg (by omega)], hA⟩
    · skip
      refine v_iload dX4_searches_23 rfl ?_
      refine v_goto 30 dX4_searches_25 (by decide) ?_
      refine o_iret hQ hlk hrt dX4_searches_30 ?_
      first | exact ⟨by rw [sSearch, if_pos g0, if_pos (by omega)], hA⟩ | exact ⟨by rw [sSearch, if_pos g0, if_neg (by omega)], hA⟩
