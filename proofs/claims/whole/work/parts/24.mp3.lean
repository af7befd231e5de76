/-! ===== the twin: what there is, searches ===== -/
set_option maxRecDepth 100000 in
set_option maxHeartbeats 400000 in
theorem c_X4_laysNow {l : Launch} {G : vGG} {M : Mem} {v : Sg} (hLM : LayM M.2) (hv : M.1 111 = v) (hI : sInv v) : Co l yX4_laysNow cX4_laysNow 1 none (rmo 2 50) G [aR (some 110)] M (fun r M' => r = none ∧ fr [120, 121, 122, 123, 124, 125] M M' ∧ SC v (sDrw v) true M') := by
  refine Co.ofV (plainFor_of_name (by decide)) rfl rfl ?_
  intro x hxl hxR hlk hrt Q hQ
  show vO x Q G cX4_laysNow RX4 0 [some (aR (some 110))] [] M
  refine v_aload_n 0 dX4_laysNow_0 rfl rfl ?_
  refine v_aload_n 0 dX4_laysNow_1 rfl rfl ?_
  refine oVv0 4 (c_X4_drawn hLM hv hI) k0_X4_drawn ki_X4_drawn ml_X4_96 (rfl : SH 110 = _) (by decide) (vRo_of hxR (by decide) (by decide)) dX4_laysNow_2 (Nat.le_of_ble_eq_true rfl) ?_
  refine v_iconst dX4_laysNow_5 ?_
  refine oVm2 4 (c_X4_lays_t hLM hv hI (sDrw_lt hI)) k0_X4_lays ki_X4_lays ml_X4_117 (rfl : SH 110 = _) (by decide) (vRo_of hxR (by decide) (by decide)) dX4_laysNow_6 (Nat.le_of_ble_eq_true rfl) (fun N hN => ?_)
  refine o_ret hQ hlk hrt dX4_laysNow_9 ?_
  exact ⟨rfl, hN⟩
set_option maxRecDepth 100000 in
set_option maxHeartbeats 400000 in
theorem c_X4_isOpen {l : Launch} {G : vGG} {M : Mem} {v : Sg} (hLM : LayM M.2) (hv : M.1 111 = v) (hI : sInv v) {st : Nat} {pr : Bool} (hC : SC v st pr M) (hst : st < 256) {s k : Nat} (hs : s < 8) (hk : k < 24) : Cv l yX4_isOpen cX4_isOpen 3 (some .boolean) (rmo 0 0) G [aR (some 110), aI (s : Int), aI (k : Int)] M (some (aI (bP ((sOpn v st pr s).testBit k = true)))) M := by
  refine Co.ofV (plainFor_of_name (by decide)) rfl rfl ?_
  intro x hxl hxR hlk hrt Q hQ
  show vO x Q G cX4_isOpen RX4 0 [some (aR (some 110)), some (aI (s : Int)), some (aI (k : Int))] [] M
  refine v_aload_n 0 dX4_isOpen_0 rfl rfl ?_
  refine v_getR lk_X4_41 rfl (rfl : SH 110 = _) (mo_12 hLM) dX4_isOpen_1 ?_
  refine v_iload_n 1 dX4_isOpen_4 rfl rfl ?_
  refine o_iald (j := s) (u := ((sOpn v st pr (s) : Nat) : Int)) (rfl : SH 121 = _) (by omega) (by omega) (hC.1.2.1 _ (by omega)) dX4_isOpen_5 ?_
  refine v_iload_n 2 dX4_isOpen_6 rfl rfl ?_
  refine v_ishr dX4_isOpen_7 ?_
  refine v_iconst dX4_isOpen_8 ?_
  refine v_iand dX4_isOpen_9 ?_
  have hol := sOpn_lt hI st pr hs
  refine o_eqI (nu_bitN (n := sOpn v st pr s) (by omega) (by omega)) ?_
  refine v_iconst dX4_isOpen_10 ?_
  refine v_icmp_ne 18 dX4_isOpen_11 (by decide) (bP_R _) (by decide) (fun h11 => ?_) (fun h11 => ?_)
  · skip
    refine v_iconst dX4_isOpen_18 ?_
    refine o_zret hQ hlk hrt (by decide) dX4_isOpen_19 ?_
    first | exact ⟨by rw [bP_t (bP_1.mp h11)], rfl⟩ | exact ⟨by rw [bP_f (mt bP_1.mpr h11)], rfl⟩
  · skip
    refine v_iconst dX4_isOpen_14 ?_
    refine v_goto 19 dX4_isOpen_15 (by decide) ?_
    refine o_zret hQ hlk hrt (by decide) dX4_isOpen_19 ?_
    first | exact ⟨by rw [bP_t (bP_1.mp h11)], rfl⟩ | exact ⟨by rw [bP_f (mt bP_1.mpr h11)], rfl⟩
theorem rr_1 {v : Sg} {st : Nat} {pr : Bool} {s k : Nat} (h1 : ¬ st.testBit s = true) : (1 : Int) = sRs v st pr s k := by rw [sRs, if_pos (by simpa using h1)]
theorem rr_2 {v : Sg} {st : Nat} {pr : Bool} {s k : Nat} (h1 : st.testBit s = true) (h2 : ¬ (sOpn v st pr s).testBit k = true) : (2 : Int) = sRs v st pr s k := by rw [sRs, if_neg (by simpa using h1), if_pos (by simpa using h2)]
theorem rr_3 {v : Sg} {st : Nat} {pr : Bool} {s k : Nat} (h1 : st.testBit s = true) (h2 : (sOpn v st pr s).testBit k = true) (h3 : sPr v st pr (sMan v s) < v (24 + 5 * s + 2)) : (3 : Int) = sRs v st pr s k := by rw [sRs, if_neg (by simpa using h1), if_neg (by simpa using h2), if_pos h3]
theorem rr_4 {v : Sg} {st : Nat} {pr : Bool} {s k : Nat} (h1 : st.testBit s = true) (h2 : (sOpn v st pr s).testBit k = true) (h3 : v (24 + 5 * s + 2) ≤ sPr v st pr (sMan v s)) (h4 : sGt v st pr (24 * s + k) < sAs v st pr (24 * s + k)) : (4 : Int) = sRs v st pr s k := by rw [sRs, if_neg (by simpa using h1), if_neg (by simpa using h2), if_neg (by omega), if_pos h4]
theorem rr_5 {v : Sg} {st : Nat} {pr : Bool} {s k : Nat} (h1 : st.testBit s = true) (h2 : (sOpn v st pr s).testBit k = true) (h3 : v (24 + 5 * s + 2) ≤ sPr v st pr (sMan v s)) (h4 : sAs v st pr (24 * s + k) ≤ sGt v st pr (24 * s + k)) (h5 : sAs v st pr (24 * s + k) = 0) : (5 : Int) = sRs v st pr s k := by rw [sRs, if_neg (by simpa using h1), if_neg (by simpa using h2), if_neg (by omega), if_neg (by omega), if_pos h5]
theorem rr_0 {v : Sg} {st : Nat} {pr : Bool} {s k : Nat} (h1 : st.testBit s = true) (h2 : (sOpn v st pr s).testBit k = true) (h3 : v (24 + 5 * s + 2) ≤ sPr v st pr (sMan v s)) (h4 : sAs v st pr (24 * s + k) ≤ sGt v st pr (24 * s + k)) (h5 : ¬ sAs v st pr (24 * s + k) = 0) : (0 : Int) = sRs v st pr s k := by rw [sRs, if_neg (by simpa using h1), if_neg (by simpa using h2), if_neg (by omega), if_neg (by omega), if_neg h5]
set_option maxRecDepth 100000 in
set_option maxHeartbeats 400000 in
theorem c_X4_reasonOf {l : Launch} {G : vGG} {M : Mem} {v : Sg} (hLM : LayM M.2) (hv : M.1 111 = v) (hI : sInv v) {st : Nat} {pr : Bool} (hC : SC v st pr M) (hst : st < 256) {s k : Nat} (hs : s < 8) (hk : k < 24) : Cv l yX4_reasonOf cX4_reasonOf 5 (some .int) (rmo 1 22) G [aR (some 110), aI (s : Int), aI (k : Int), aI (st : Int)] M (some (aI (sRs v st pr s k))) M := by
  refine Co.ofV (plainFor_of_name (by decide)) rfl rfl ?_
  intro x hxl hxR hlk hrt Q hQ
  have hmn := sMan_lt hI hs
  have hst1 := iv_st hI hs
  have hpb := sPr_b hI st pr hmn.1
  have has := sAs_b hI st pr (p := 24 * s + k) (by omega)
  have hlf := sLf_b hI st pr (24 * s + k) (by omega)
  have hse := iv_set hI
  have hbe := iv_bel hI
  have hgt : sGt v st pr (24 * s + k) ≤ 45 ∧ 0 ≤ sGt v st pr (24 * s + k) := by unfold sGt; omega
  show vO x Q G cX4_reasonOf RX4 0 [some (aR (some 110)), some (aI (s : Int)), some (aI (k : Int)), some (aI (st : Int)), none] [] M
  refine v_bipush dX4_reasonOf_0 (by decide) ?_
  refine v_iload_n 1 dX4_reasonOf_2 rfl rfl ?_
  refine v_imul dX4_reasonOf_3 ?_
  refine v_iload_n 2 dX4_reasonOf_4 rfl rfl ?_
  refine v_iadd dX4_reasonOf_5 ?_
  refine v_ist4 dX4_reasonOf_6 rfl ?_
  refine v_iload_n 3 dX4_reasonOf_8 rfl rfl ?_
  refine v_iload_n 1 dX4_reasonOf_9 rfl rfl ?_
  refine v_ishr dX4_reasonOf_10 ?_
  refine v_iconst dX4_reasonOf_11 ?_
  refine v_iand dX4_reasonOf_12 ?_
  refine o_eqI (nu_bitN (n := st) (by omega) (by omega)) ?_
  refine v_if_ne 18 dX4_reasonOf_13 (by decide) (bP_R _) (fun h13 => ?_) (fun h13 => ?_)
  · skip
    have g1 := bP_n0.mp h13
    refine v_aload_n 0 dX4_reasonOf_18 rfl rfl ?_
    refine v_iload_n 1 dX4_reasonOf_19 rfl rfl ?_
    refine v_iload_n 2 dX4_reasonOf_20 rfl rfl ?_
    refine oVv2 4 (c_X4_isOpen hLM hv hI hC hst hs hk) k0_X4_isOpen ki_X4_isOpen ml_X4_121 (rfl : SH 110 = _) (by decide) (vRo_of hxR (by decide) (by decide)) dX4_reasonOf_21 (Nat.le_of_ble_eq_true rfl) ?_
    refine v_if_ne 29 dX4_reasonOf_24 (by decide) (bP_R _) (fun h24 => ?_) (fun h24 => ?_)
    · skip
      have g2 := bP_n0.mp h24
      refine v_aload_n 0 dX4_reasonOf_29 rfl rfl ?_
      refine v_getR lk_X4_47 rfl (rfl : SH 110 = _) (mo_14 hLM) dX4_reasonOf_30 ?_
      refine v_aload_n 0 dX4_reasonOf_33 rfl rfl ?_
      refine v_getR lk_X4_7 rfl (rfl : SH 110 = _) (mo_0 hLM) dX4_reasonOf_34 ?_
      refine v_bipush dX4_reasonOf_37 (by decide) ?_
      refine v_iconst dX4_reasonOf_39 ?_
      refine v_iload_n 1 dX4_reasonOf_40 rfl rfl ?_
      refine v_imul dX4_reasonOf_41 ?_
      refine v_iadd dX4_reasonOf_42 ?_
      refine o_iald (j := 24 + (5 * s)) (u := ((sMan v s : Nat) : Int)) (rfl : SH 111 = _) (by omega) (by omega) (by rw [hv]; exact hmn.2) dX4_reasonOf_43 ?_
      refine o_iald (j := sMan v s) (u := sPr v st pr (sMan v s)) (rfl : SH 123 = _) (by omega) (by omega) (hC.1.2.2.2 _ hmn.1) dX4_reasonOf_44 ?_
      refine v_aload_n 0 dX4_reasonOf_45 rfl rfl ?_
      refine v_getR lk_X4_7 rfl (rfl : SH 110 = _) (mo_0 hLM) dX4_reasonOf_46 ?_
      refine v_bipush dX4_reasonOf_49 (by decide) ?_
      refine v_iconst dX4_reasonOf_51 ?_
      refine v_iload_n 1 dX4_reasonOf_52 rfl rfl ?_
      refine v_imul dX4_reasonOf_53 ?_
      refine v_iadd dX4_reasonOf_54 ?_
      refine v_iconst dX4_reasonOf_55 ?_
      refine v_iadd dX4_reasonOf_56 ?_
      refine o_iald (j := (24 + (5 * s)) + 2) (u := v ((24 + (5 * s)) + 2)) (rfl : SH 111 = _) (by omega) (by omega) (by rw [hv]) dX4_reasonOf_57 ?_
      refine v_icmp_ge 63 dX4_reasonOf_58 (by decide) (by omega) (by omega) (fun h58 => ?_) (fun h58 => ?_)
      · skip
        refine v_aload_n 0 dX4_reasonOf_63 rfl rfl ?_
        refine v_getR lk_X4_53 rfl (rfl : SH 110 = _) (mo_16 hLM) dX4_reasonOf_64 ?_
        refine v_iload dX4_reasonOf_67 rfl ?_
        refine o_iald (j := (24 * s) + k) (u := sGt v st pr ((24 * s) + k)) (rfl : SH 125 = _) (by omega) (by omega) (hC.2.2 _ (by omega)) dX4_reasonOf_69 ?_
        refine v_aload_n 0 dX4_reasonOf_70 rfl rfl ?_
        refine v_getR lk_X4_50 rfl (rfl : SH 110 = _) (mo_15 hLM) dX4_reasonOf_71 ?_
        refine v_iload dX4_reasonOf_74 rfl ?_
        refine o_iald (j := (24 * s) + k) (u := sAs v st pr ((24 * s) + k)) (rfl : SH 124 = _) (by omega) (by omega) (hC.2.1 _ (by omega)) dX4_reasonOf_76 ?_
        refine v_icmp_ge 84 dX4_reasonOf_77 (by decide) (by omega) (by omega) (fun h77 => ?_) (fun h77 => ?_)
        · skip
          refine v_aload_n 0 dX4_reasonOf_84 rfl rfl ?_
          refine v_getR lk_X4_50 rfl (rfl : SH 110 = _) (mo_15 hLM) dX4_reasonOf_85 ?_
          refine v_iload dX4_reasonOf_88 rfl ?_
          refine o_iald (j := (24 * s) + k) (u := sAs v st pr ((24 * s) + k)) (rfl : SH 124 = _) (by omega) (by omega) (hC.2.1 _ (by omega)) dX4_reasonOf_90 ?_
          refine v_if_ne 98 dX4_reasonOf_91 (by decide) (by omega) (fun h91 => ?_) (fun h91 => ?_)
          · skip
            refine v_iconst dX4_reasonOf_98 ?_
            refine o_iret hQ hlk hrt dX4_reasonOf_99 ?_
            first | exact ⟨by rw [rr_4 g1 g2 h58 h77], rfl⟩ | exact ⟨by rw [rr_5 g1 g2 h58 h77 h91], rfl⟩ | exact ⟨by rw [rr_0 g1 g2 h58 h77 h91], rfl⟩
          · skip
            refine v_iconst dX4_reasonOf_94 ?_
            refine v_goto 99 dX4_reasonOf_95 (by decide) ?_
            refine o_iret hQ hlk hrt dX4_reasonOf_99 ?_
            first | exact ⟨by rw [rr_4 g1 g2 h58 h77], rfl⟩ | exact ⟨by rw [rr_5 g1 g2 h58 h77 h91], rfl⟩ | exact ⟨by rw [rr_0 g1 g2 h58 h77 h91], rfl⟩
        · skip
          refine v_iconst dX4_reasonOf_80 ?_
          refine v_goto 99 dX4_reasonOf_81 (by decide) ?_
          refine o_iret hQ hlk hrt dX4_reasonOf_99 ?_
          first | exact ⟨by rw [rr_4 g1 g2 h58 h77], rfl⟩ | exact ⟨by rw [rr_5 g1 g2 h58 h77 h91], rfl⟩ | exact ⟨by rw [rr_0 g1 g2 h58 h77 h91], rfl⟩
      · skip
        refine v_iconst dX4_reasonOf_61 ?_
        refine o_iret hQ hlk hrt dX4_reasonOf_62 ?_
        exact ⟨by rw [rr_3 g1 g2 h58], rfl⟩
    · skip
      refine v_iconst dX4_reasonOf_27 ?_
      refine o_iret hQ hlk hrt dX4_reasonOf_28 ?_
      exact ⟨by rw [rr_2 g1 (bP_0.mp h24)], rfl⟩
  · skip
    refine v_iconst dX4_reasonOf_16 ?_
    refine o_iret hQ hlk hrt dX4_reasonOf_17 ?_
    exact ⟨by rw [rr_1 (bP_0.mp h13)], rfl⟩
theorem bn_R {v : Sg} (h : sInv v) {st : Nat} {pr : Bool} {s : Nat} (hs : s < 8) : R32 ((sPr v st pr (sMan v s) - v 1) * v 9) := by
  have h1 := sPr_b h st pr (sMan_lt h hs).1
  have h2 := iv_set h
  have h3 : (sPr v st pr (sMan v s) - v 1) * v 9 ≤ 0 := Int.mul_nonpos_of_nonpos_of_nonneg (by omega) (by omega)
  have h4 : (sPr v st pr (sMan v s) - v 1) * v 9 ≥ (-200) * v 9 := Int.mul_le_mul_of_nonneg_right (by omega) (by omega)
  omega
set_option maxRecDepth 100000 in
set_option maxHeartbeats 400000 in
theorem c_X4_bend {l : Launch} {G : vGG} {M : Mem} {v : Sg} (hLM : LayM M.2) (hv : M.1 111 = v) (hI : sInv v) {st : Nat} {pr : Bool} (hC : SC v st pr M) (hst : st < 256) {s : Nat} (hs : s < 8) : Cv l yX4_bend cX4_bend 2 (some .int) (rmo 1 22) G [aR (some 110), aI (s : Int)] M (some (aI (sBend v st pr s))) M := by
  refine Co.ofV (plainFor_of_name (by decide)) rfl rfl ?_
  intro x hxl hxR hlk hrt Q hQ
  have hmn := sMan_lt hI hs
  show vO x Q G cX4_bend RX4 0 [some (aR (some 110)), some (aI (s : Int))] [] M
  refine v_aload_n 0 dX4_bend_0 rfl rfl ?_
  refine v_getR lk_X4_47 rfl (rfl : SH 110 = _) (mo_14 hLM) dX4_bend_1 ?_
  refine v_aload_n 0 dX4_bend_4 rfl rfl ?_
  refine v_getR lk_X4_7 rfl (rfl : SH 110 = _) (mo_0 hLM) dX4_bend_5 ?_
  refine v_bipush dX4_bend_8 (by decide) ?_
  refine v_iconst dX4_bend_10 ?_
  refine v_iload_n 1 dX4_bend_11 rfl rfl ?_
  refine v_imul dX4_bend_12 ?_
  refine v_iadd dX4_bend_13 ?_
  refine o_iald (j := 24 + (5 * s)) (u := ((sMan v s : Nat) : Int)) (rfl : SH 111 = _) (by omega) (by omega) (by rw [hv]; exact hmn.2) dX4_bend_14 ?_
  refine o_iald (j := sMan v s) (u := sPr v st pr (sMan v s)) (rfl : SH 123 = _) (by omega) (by omega) (hC.1.2.2.2 _ hmn.1) dX4_bend_15 ?_
  refine v_aload_n 0 dX4_bend_16 rfl rfl ?_
  refine v_getR lk_X4_7 rfl (rfl : SH 110 = _) (mo_0 hLM) dX4_bend_17 ?_
  refine v_iconst dX4_bend_20 ?_
  refine o_iald (j := 1) (u := v (1)) (rfl : SH 111 = _) (by omega) (by omega) (by rw [hv]) dX4_bend_21 ?_
  refine v_isub dX4_bend_22 ?_
  refine v_aload_n 0 dX4_bend_23 rfl rfl ?_
  refine v_getR lk_X4_7 rfl (rfl : SH 110 = _) (mo_0 hLM) dX4_bend_24 ?_
  refine v_bipush dX4_bend_27 (by decide) ?_
  refine o_iald (j := 9) (u := v (9)) (rfl : SH 111 = _) (by omega) (by omega) (by rw [hv]) dX4_bend_29 ?_
  refine v_imul dX4_bend_30 ?_
  refine v_bipush dX4_bend_31 (by decide) ?_
  refine oSv2 (c_X4_down (bn_R hI hs) (by decide)) k0_X4_down ki_X4_down ml_X4_128 (vRo_of hxR (by decide) (by decide)) dX4_bend_33 (Nat.le_of_ble_eq_true rfl) ?_
  refine o_iret hQ hlk hrt dX4_bend_36 ?_
  exact ⟨rfl, rfl⟩
set_option maxRecDepth 100000 in
set_option maxHeartbeats 400000 in
theorem c_X4_pitch {l : Launch} {G : vGG} {M : Mem} {v : Sg} (hLM : LayM M.2) (hv : M.1 111 = v) (hI : sInv v) {st : Nat} {pr : Bool} (hC : SC v st pr M) (hst : st < 256) {s k : Nat} (hs : s < 8) (hk : k < 24) : Cv l yX4_pitch cX4_pitch 3 (some .int) (rmo 2 43) G [aR (some 110), aI (s : Int), aI (k : Int)] M (some (aI (sPitch v st pr s k))) M := by
  refine Co.ofV (plainFor_of_name (by decide)) rfl rfl ?_
  intro x hxl hxR hlk hrt Q hQ
  show vO x Q G cX4_pitch RX4 0 [some (aR (some 110)), some (aI (s : Int)), some (aI (k : Int))] [] M
  refine v_aload_n 0 dX4_pitch_0 rfl rfl ?_
  refine v_getR lk_X4_7 rfl (rfl : SH 110 = _) (mo_0 hLM) dX4_pitch_1 ?_
  refine v_bipush dX4_pitch_4 (by decide) ?_
  refine v_bipush dX4_pitch_6 (by decide) ?_
  refine v_iload_n 1 dX4_pitch_8 rfl rfl ?_
  refine v_imul dX4_pitch_9 ?_
  refine v_iadd dX4_pitch_10 ?_
  refine v_iload_n 2 dX4_pitch_11 rfl rfl ?_
  refine v_iadd dX4_pitch_12 ?_
  refine o_iald (j := (64 + (24 * s)) + k) (u := v ((64 + (24 * s)) + k)) (rfl : SH 111 = _) (by omega) (by omega) (by rw [hv]) dX4_pitch_13 ?_
  refine v_aload_n 0 dX4_pitch_14 rfl rfl ?_
  refine v_iload_n 1 dX4_pitch_15 rfl rfl ?_
  refine oVv1 4 (c_X4_bend hLM hv hI hC hst hs) k0_X4_bend ki_X4_bend ml_X4_125 (rfl : SH 110 = _) (by decide) (vRo_of hxR (by decide) (by decide)) dX4_pitch_16 (Nat.le_of_ble_eq_true rfl) ?_
  refine v_iadd dX4_pitch_19 ?_
  refine o_iret hQ hlk hrt dX4_pitch_20 ?_
  exact ⟨rfl, rfl⟩
set_option maxRecDepth 100000 in
set_option maxHeartbeats 400000 in
theorem c_X4_speaking {l : Launch} {G : vGG} {M : Mem} {v : Sg} (hLM : LayM M.2) (hv : M.1 111 = v) (hI : sInv v) {st : Nat} {pr : Bool} (hC : SC v st pr M) (hst : st < 256) : Cv l yX4_speaking cX4_speaking 4 (some .int) (rmo 2 46) G [aR (some 110), aI (st : Int)] M (some (aI ((sSp v st pr 192 : Nat) : Int))) M := by
  refine Co.ofV (plainFor_of_name (by decide)) rfl rfl ?_
  intro x hxl hxR hlk hrt Q hQ
  show vO x Q G cX4_speaking RX4 0 [some (aR (some 110)), some (aI (st : Int)), none, none] [] M
  refine v_iconst dX4_speaking_0 ?_
  refine v_ist2 dX4_speaking_1 rfl ?_
  refine v_iconst dX4_speaking_2 ?_
  refine v_ist3 dX4_speaking_3 rfl ?_
  have lp4 : ∀ (dd p : Nat), p + dd = 192 → vO x Q G cX4_speaking RX4 4 [some (aR (some 110)), some (aI (st : Int)), some (aI ((sSp v st pr p : Nat) : Int)), some (aI (p : Int))] [] M := by
    intro dd
    induction dd with
    | zero =>
      intro p hd
      refine v_iload_n 3 dX4_speaking_4 rfl rfl ?_
      refine v_sipush dX4_speaking_5 (by decide) ?_
      refine v_icmp_ge 41 dX4_speaking_8 (by decide) (by omega) (by decide) (fun h8 => ?_) (fun h8 => ?_)
      · skip
        refine v_iload_n 2 dX4_speaking_41 rfl rfl ?_
        refine o_iret hQ hlk hrt dX4_speaking_42 ?_
        exact ⟨by rw [show p = 192 by omega], rfl⟩
      · skip
        exact absurd h8 (by omega)
    | succ dd ih =>
      intro p hd
      refine v_iload_n 3 dX4_speaking_4 rfl rfl ?_
      refine v_sipush dX4_speaking_5 (by decide) ?_
      refine v_icmp_ge 41 dX4_speaking_8 (by decide) (by omega) (by decide) (fun h8 => ?_) (fun h8 => ?_)
      · skip
        exact absurd h8 (by omega)
      · skip
        refine v_iload_n 2 dX4_speaking_11 rfl rfl ?_
        refine v_aload_n 0 dX4_speaking_12 rfl rfl ?_
        refine v_iload_n 3 dX4_speaking_13 rfl rfl ?_
        refine v_bipush dX4_speaking_14 (by decide) ?_
        refine v_idiv dX4_speaking_16 (by omega) (by decide) (by omega) ?_
        refine o_eqI (u := ((p / 24 : Nat) : Int)) (dv_n p 24) ?_
        refine v_iload_n 3 dX4_speaking_17 rfl rfl ?_
        refine v_bipush dX4_speaking_18 (by decide) ?_
        refine v_irem dX4_speaking_20 (by omega) (by decide) (by omega) ?_
        refine o_eqI (u := ((p % 24 : Nat) : Int)) (md_n p 24) ?_
        refine v_iload_n 1 dX4_speaking_21 rfl rfl ?_
        refine oVv3 4 (c_X4_reasonOf hLM hv hI hC hst (by omega) (by omega)) k0_X4_reasonOf ki_X4_reasonOf ml_X4_179 (rfl : SH 110 = _) (by decide) (vRo_of hxR (by decide) (by decide)) dX4_speaking_22 (Nat.le_of_ble_eq_true rfl) ?_
        have hrb := sRs_b v st pr (p / 24) (p % 24)
        refine v_if_ne 32 dX4_speaking_25 (by decide) (by omega) (fun h25 => ?_) (fun h25 => ?_)
        · skip
          refine v_iconst dX4_speaking_32 ?_
          refine v_iadd dX4_speaking_33 ?_
          refine o_eqI (u := ((sSp v st pr (p + 1) : Nat) : Int)) (by first | (rw [sSp, if_pos h25]; omega) | (rw [sSp, if_neg h25]; omega)) ?_
          refine v_ist2 dX4_speaking_34 rfl ?_
          refine v_iinc3 dX4_speaking_35 rfl ?_
          refine v_goto 4 dX4_speaking_38 (by decide) ?_
          exact ih (p + 1) (by omega)
        · skip
          refine v_iconst dX4_speaking_28 ?_
          refine v_goto 33 dX4_speaking_29 (by decide) ?_
          refine v_iadd dX4_speaking_33 ?_
          refine o_eqI (u := ((sSp v st pr (p + 1) : Nat) : Int)) (by first | (rw [sSp, if_pos h25]; omega) | (rw [sSp, if_neg h25]; omega)) ?_
          refine v_ist2 dX4_speaking_34 rfl ?_
          refine v_iinc3 dX4_speaking_35 rfl ?_
          refine v_goto 4 dX4_speaking_38 (by decide) ?_
          exact ih (p + 1) (by omega)
  exact lp4 192 0 rfl
set_option maxRecDepth 100000 in
set_option maxHeartbeats 400000 in
theorem c_X4_openMany {l : Launch} {G : vGG} {M : Mem} {v : Sg} (hLM : LayM M.2) (hv : M.1 111 = v) (hI : sInv v) {st : Nat} {pr : Bool} (hC : SC v st pr M) (hst : st < 256) : Cv l yX4_openMany cX4_openMany 3 (some .int) (rmo 1 22) G [aR (some 110)] M (some (aI ((sOm v st pr 8 : Nat) : Int))) M := by
  refine Co.ofV (plainFor_of_name (by decide)) rfl rfl ?_
  intro x hxl hxR hlk hrt Q hQ
  show vO x Q G cX4_openMany RX4 0 [some (aR (some 110)), none, none] [] M
  refine v_iconst dX4_openMany_0 ?_
  refine v_ist1 dX4_openMany_1 rfl ?_
  refine v_iconst dX4_openMany_2 ?_
  refine v_ist2 dX4_openMany_3 rfl ?_
  have lp4 : ∀ (dd s : Nat), s + dd = 8 → vO x Q G cX4_openMany RX4 4 [some (aR (some 110)), some (aI ((sOm v st pr s : Nat) : Int)), some (aI (s : Int))] [] M := by
    intro dd
    induction dd with
    | zero =>
      intro s hd
      refine v_iload_n 2 dX4_openMany_4 rfl rfl ?_
      refine v_bipush dX4_openMany_5 (by decide) ?_
      refine v_icmp_ge 28 dX4_openMany_7 (by decide) (by omega) (by decide) (fun h7 => ?_) (fun h7 => ?_)
      · skip
        refine v_iload_n 1 dX4_openMany_28 rfl rfl ?_
        refine o_iret hQ hlk hrt dX4_openMany_29 ?_
        exact ⟨by rw [show s = 8 by omega], rfl⟩
      · skip
        exact absurd h7 (by omega)
    | succ dd ih =>
      intro s hd
      refine v_iload_n 2 dX4_openMany_4 rfl rfl ?_
      refine v_bipush dX4_openMany_5 (by decide) ?_
      refine v_icmp_ge 28 dX4_openMany_7 (by decide) (by omega) (by decide) (fun h7 => ?_) (fun h7 => ?_)
      · skip
        exact absurd h7 (by omega)
      · skip
        refine v_iload_n 1 dX4_openMany_10 rfl rfl ?_
        refine v_aload_n 0 dX4_openMany_11 rfl rfl ?_
        refine v_getR lk_X4_41 rfl (rfl : SH 110 = _) (mo_12 hLM) dX4_openMany_12 ?_
        refine v_iload_n 2 dX4_openMany_15 rfl rfl ?_
        refine o_iald (j := s) (u := ((sOpn v st pr (s) : Nat) : Int)) (rfl : SH 121 = _) (by omega) (by omega) (hC.1.2.1 _ (by omega)) dX4_openMany_16 ?_
        have hol := sOpn_lt hI st pr (show s < 8 by omega)
        refine oSv1 (c_X4_size hol) k0_X4_size ki_X4_size ml_X4_80 (vRo_of hxR (by decide) (by decide)) dX4_openMany_17 (Nat.le_of_ble_eq_true rfl) ?_
        refine v_iadd dX4_openMany_20 ?_
        refine o_eqI (u := ((sOm v st pr (s + 1) : Nat) : Int)) (by rw [sOm]; omega) ?_
        refine v_ist1 dX4_openMany_21 rfl ?_
        refine v_iinc2 dX4_openMany_22 rfl ?_
        refine v_goto 4 dX4_openMany_25 (by decide) ?_
        exact ih (s + 1) (by omega)
  exact lp4 8 0 rfl
set_option maxRecDepth 100000 in
set_option maxHeartbeats 400000 in
theorem c_X4_ciphersAll {l : Launch} {G : vGG} {M : Mem} {v : Sg} (hLM : LayM M.2) (hv : M.1 111 = v) (hI : sInv v) : Cv l yX4_ciphersAll cX4_ciphersAll 3 (some .int) (rmo 1 22) G [aR (some 110)] M (some (aI ((sCi v 8 : Nat) : Int))) M := by
  refine Co.ofV (plainFor_of_name (by decide)) rfl rfl ?_
  intro x hxl hxR hlk hrt Q hQ
  show vO x Q G cX4_ciphersAll RX4 0 [some (aR (some 110)), none, none] [] M
  refine v_iconst dX4_ciphersAll_0 ?_
  refine v_ist1 dX4_ciphersAll_1 rfl ?_
  refine v_iconst dX4_ciphersAll_2 ?_
  refine v_ist2 dX4_ciphersAll_3 rfl ?_
  have lp4 : ∀ (dd s : Nat), s + dd = 8 → vO x Q G cX4_ciphersAll RX4 4 [some (aR (some 110)), some (aI ((sCi v s : Nat) : Int)), some (aI (s : Int))] [] M := by
    intro dd
    induction dd with
    | zero =>
      intro s hd
      refine v_iload_n 2 dX4_ciphersAll_4 rfl rfl ?_
      refine v_bipush dX4_ciphersAll_5 (by decide) ?_
      refine v_icmp_ge 32 dX4_ciphersAll_7 (by decide) (by omega) (by decide) (fun h7 => ?_) (fun h7 => ?_)
      · skip
        refine v_iload_n 1 dX4_ciphersAll_32 rfl rfl ?_
        refine o_iret hQ hlk hrt dX4_ciphersAll_33 ?_
        exact ⟨by rw [show s = 8 by omega], rfl⟩
      · skip
        exact absurd h7 (by omega)
    | succ dd ih =>
      intro s hd
      refine v_iload_n 2 dX4_ciphersAll_4 rfl rfl ?_
      refine v_bipush dX4_ciphersAll_5 (by decide) ?_
      refine v_icmp_ge 32 dX4_ciphersAll_7 (by decide) (by omega) (by decide) (fun h7 => ?_) (fun h7 => ?_)
      · skip
        exact absurd h7 (by omega)
      · skip
        refine v_iload_n 1 dX4_ciphersAll_10 rfl rfl ?_
        refine v_aload_n 0 dX4_ciphersAll_11 rfl rfl ?_
        refine v_getR lk_X4_7 rfl (rfl : SH 110 = _) (mo_0 hLM) dX4_ciphersAll_12 ?_
        refine v_sipush dX4_ciphersAll_15 (by decide) ?_
        refine v_iload_n 2 dX4_ciphersAll_18 rfl rfl ?_
        refine v_iadd dX4_ciphersAll_19 ?_
        have hcv := (iv_st hI (show s < 8 by omega)).2.2.2.2
        refine o_iald (j := 256 + s) (u := (((v (256 + s)).toNat : Nat) : Int)) (rfl : SH 111 = _) (by omega) (by omega) (by rw [hv]; omega) dX4_ciphersAll_20 ?_
        refine oSv1 (c_X4_size (by omega)) k0_X4_size ki_X4_size ml_X4_80 (vRo_of hxR (by decide) (by decide)) dX4_ciphersAll_21 (Nat.le_of_ble_eq_true rfl) ?_
        refine v_iadd dX4_ciphersAll_24 ?_
        refine o_eqI (u := ((sCi v (s + 1) : Nat) : Int)) (by rw [sCi]; omega) ?_
        refine v_ist1 dX4_ciphersAll_25 rfl ?_
        refine v_iinc2 dX4_ciphersAll_26 rfl ?_
        refine v_goto 4 dX4_ciphersAll_29 (by decide) ?_
        exact ih (s + 1) (by omega)
  exact lp4 8 0 rfl
set_option maxRecDepth 100000 in
set_option maxHeartbeats 400000 in
theorem c_X4_lowestOf {l : Launch} {G : vGG} {M : Mem} {z : Nat} (hz : z < 16777216) : Cv l yX4_lowestOf cX4_lowestOf 2 (some .int) (rmo 0 0) G [aI (z : Int)] M (some (aI (sLow z))) M := by
  refine Co.ofV (plainFor_of_name (by decide)) rfl rfl ?_
  intro x hxl hxR hlk hrt Q hQ
  show vO x Q G cX4_lowestOf RX4 0 [some (aI (z : Int)), none] [] M
  refine v_iconst dX4_lowestOf_0 ?_
  refine v_ist1 dX4_lowestOf_1 rfl ?_
  have lp2 : ∀ (dd k : Nat), k + dd = 24 → sLoF z dd k = sLow z → vO x Q G cX4_lowestOf RX4 2 [some (aI (z : Int)), some (aI (k : Int))] [] M := by
    intro dd
    induction dd with
    | zero =>
      intro k hd he
      refine v_iload_n 1 dX4_lowestOf_2 rfl rfl ?_
      refine v_bipush dX4_lowestOf_3 (by decide) ?_
      refine v_icmp_ge 25 dX4_lowestOf_5 (by decide) (by omega) (by decide) (fun h5 => ?_) (fun h5 => ?_)
      · skip
        refine v_ldc (-1000005) kc_X4_177 (by decide) dX4_lowestOf_25 ?_
        refine o_iret hQ hlk hrt dX4_lowestOf_27 ?_
        exact ⟨by rw [← he]; rfl, rfl⟩
      · skip
        exact absurd h5 (by omega)
    | succ dd ih =>
      intro k hd he
      refine v_iload_n 1 dX4_lowestOf_2 rfl rfl ?_
      refine v_bipush dX4_lowestOf_3 (by decide) ?_
      refine v_icmp_ge 25 dX4_lowestOf_5 (by decide) (by omega) (by decide) (fun h5 => ?_) (fun h5 => ?_)
      · skip
        exact absurd h5 (by omega)
      · skip
        refine v_iload_n 0 dX4_lowestOf_8 rfl rfl ?_
        refine v_iload_n 1 dX4_lowestOf_9 rfl rfl ?_
        refine v_ishr dX4_lowestOf_10 ?_
        refine v_iconst dX4_lowestOf_11 ?_
        refine v_iand dX4_lowestOf_12 ?_
        refine o_eqI (nu_bitN (n := z) (by omega) (by omega)) ?_
        refine v_iconst dX4_lowestOf_13 ?_
        refine v_icmp_ne 19 dX4_lowestOf_14 (by decide) (bP_R _) (by decide) (fun h14 => ?_) (fun h14 => ?_)
        · skip
          have g := mt bP_1.mpr h14
          refine v_iinc1 dX4_lowestOf_19 rfl ?_
          refine v_goto 2 dX4_lowestOf_22 (by decide) ?_
          exact ih (k + 1) (by omega) (by rw [← he, sLoF, if_neg g])
        · skip
          have g := bP_1.mp h14
          refine v_iload_n 1 dX4_lowestOf_17 rfl rfl ?_
          refine o_iret hQ hlk hrt dX4_lowestOf_18 ?_
          exact ⟨by rw [← he, sLoF, if_pos g], rfl⟩
  exact lp2 24 0 rfl rfl
set_option maxRecDepth 100000 in
set_option maxHeartbeats 400000 in
theorem c_X4_chestTells {l : Launch} {G : vGG} {M : Mem} {v : Sg} (hLM : LayM M.2) (hv : M.1 111 = v) (hI : sInv v) {m w : Nat} (hm : m < 2) (hw : w < 3) : Co l yX4_chestTells cX4_chestTells 3 (some .int) (rmo 3 70) G [aR (some 110), aI (m : Int), aI (w : Int)] M (fun r M' => r = some (aI (sCh v m w)) ∧ fr [120, 121, 122, 123, 124, 125] M M') := by
  refine Co.ofV (plainFor_of_name (by decide)) rfl rfl ?_
  intro x hxl hxR hlk hrt Q hQ
  show vO x Q G cX4_chestTells RX4 0 [some (aR (some 110)), some (aI (m : Int)), some (aI (w : Int))] [] M
  refine v_aload_n 0 dX4_chestTells_0 rfl rfl ?_
  refine oVm0 4 (c_X4_laysNow hLM hv hI) k0_X4_laysNow ki_X4_laysNow ml_X4_131 (rfl : SH 110 = _) (by decide) (vRo_of hxR (by decide) (by decide)) dX4_chestTells_1 (Nat.le_of_ble_eq_true rfl) (fun N hN => ?_)
  obtain ⟨hF, hC⟩ := hN
  have hLN := fr_lay hF hLM
  have hvN : N.1 111 = v := (hF.2 111 (by decide)).trans hv
  have hst := sDrw_lt hI
  refine v_iload_n 2 dX4_chestTells_4 rfl rfl ?_
  refine v_if_ne 17 dX4_chestTells_5 (by decide) (by omega) (fun h5 => ?_) (fun h5 => ?_)
  · skip
    refine v_iload_n 2 dX4_chestTells_17 rfl rfl ?_
    refine v_iconst dX4_chestTells_18 ?_
    refine v_icmp_ne 31 dX4_chestTells_19 (by decide) (by omega) (by decide) (fun h19 => ?_) (fun h19 => ?_)
    · skip
      refine v_aload_n 0 dX4_chestTells_31 rfl rfl ?_
      refine v_getR lk_X4_38 rfl (rfl : SH 110 = _) (mo_11 hLN) dX4_chestTells_32 ?_
      refine v_iload_n 1 dX4_chestTells_35 rfl rfl ?_
      refine o_iald (j := m) (u := ((sAct v true (m) : Nat) : Int)) (rfl : SH 120 = _) (by omega) (by omega) (hC.1.1 _ (by omega)) dX4_chestTells_36 ?_
      refine o_iret hQ hlk hrt dX4_chestTells_37 ?_
      first | exact ⟨by rw [sCh, if_pos (by omega)], hF⟩ | exact ⟨by rw [sCh, if_neg (by omega), if_pos (by omega)], hF⟩ | exact ⟨by rw [sCh, if_neg (by omega), if_neg (by omega)], hF⟩
    · skip
      refine v_aload_n 0 dX4_chestTells_22 rfl rfl ?_
      refine v_getR lk_X4_44 rfl (rfl : SH 110 = _) (mo_13 hLN) dX4_chestTells_23 ?_
      refine v_iload_n 1 dX4_chestTells_26 rfl rfl ?_
      refine o_iald (j := m) (u := sNs v (sDrw v) true (m) 192) (rfl : SH 122 = _) (by omega) (by omega) (hC.1.2.2.1 _ (by omega)) dX4_chestTells_27 ?_
      refine v_goto 37 dX4_chestTells_28 (by decide) ?_
      refine o_iret hQ hlk hrt dX4_chestTells_37 ?_
      first | exact ⟨by rw [sCh, if_pos (by omega)], hF⟩ | exact ⟨by rw [sCh, if_neg (by omega), if_pos (by omega)], hF⟩ | exact ⟨by rw [sCh, if_neg (by omega), if_neg (by omega)], hF⟩
  · skip
    refine v_aload_n 0 dX4_chestTells_8 rfl rfl ?_
    refine v_getR lk_X4_47 rfl (rfl : SH 110 = _) (mo_14 hLN) dX4_chestTells_9 ?_
    refine v_iload_n 1 dX4_chestTells_12 rfl rfl ?_
    refine o_iald (j := m) (u := sPr v (sDrw v) true (m)) (rfl : SH 123 = _) (by omega) (by omega) (hC.1.2.2.2 _ (by omega)) dX4_chestTells_13 ?_
    refine v_goto 37 dX4_chestTells_14 (by decide) ?_
    refine o_iret hQ hlk hrt dX4_chestTells_37 ?_
    first | exact ⟨by rw [sCh, if_pos (by omega)], hF⟩ | exact ⟨by rw [sCh, if_neg (by omega), if_pos (by omega)], hF⟩ | exact ⟨by rw [sCh, if_neg (by omega), if_neg (by omega)], hF⟩
set_option maxRecDepth 100000 in
set_option maxHeartbeats 400000 in
theorem c_X4_pipeTells {l : Launch} {G : vGG} {M : Mem} {v : Sg} (hLM : LayM M.2) (hv : M.1 111 = v) (hI : sInv v) {s k w : Nat} (hs : s < 8) (hk : k < 24) (hw : w < 5) : Co l yX4_pipeTells cX4_pipeTells 5 (some .int) (rmo 3 70) G [aR (some 110), aI (s : Int), aI (k : Int), aI (w : Int)] M (fun r M' => r = some (aI (sPi v s k w)) ∧ fr [120, 121, 122, 123, 124, 125] M M') := by
  refine Co.ofV (plainFor_of_name (by decide)) rfl rfl ?_
  intro x hxl hxR hlk hrt Q hQ
  show vO x Q G cX4_pipeTells RX4 0 [some (aR (some 110)), some (aI (s : Int)), some (aI (k : Int)), some (aI (w : Int)), none] [] M
  refine v_bipush dX4_pipeTells_0 (by decide) ?_
  refine v_iload_n 1 dX4_pipeTells_2 rfl rfl ?_
  refine v_imul dX4_pipeTells_3 ?_
  refine v_iload_n 2 dX4_pipeTells_4 rfl rfl ?_
  refine v_iadd dX4_pipeTells_5 ?_
  refine v_ist4 dX4_pipeTells_6 rfl ?_
  refine v_iload_n 3 dX4_pipeTells_8 rfl rfl ?_
  refine v_iconst dX4_pipeTells_9 ?_
  refine v_icmp_ge 37 dX4_pipeTells_10 (by decide) (by omega) (by decide) (fun h10 => ?_) (fun h10 => ?_)
  · skip
    refine v_aload_n 0 dX4_pipeTells_37 rfl rfl ?_
    refine oVm0 4 (c_X4_laysNow hLM hv hI) k0_X4_laysNow ki_X4_laysNow ml_X4_131 (rfl : SH 110 = _) (by decide) (vRo_of hxR (by decide) (by decide)) dX4_pipeTells_38 (Nat.le_of_ble_eq_true rfl) (fun N hN => ?_)
    obtain ⟨hF, hC⟩ := hN
    have hLN := fr_lay hF hLM
    have hvN : N.1 111 = v := (hF.2 111 (by decide)).trans hv
    have hst := sDrw_lt hI
    refine v_aload_n 0 dX4_pipeTells_41 rfl rfl ?_
    refine v_iload_n 1 dX4_pipeTells_42 rfl rfl ?_
    refine v_iload_n 2 dX4_pipeTells_43 rfl rfl ?_
    refine oVv2 4 (c_X4_isOpen hLN hvN hI hC hst hs hk) k0_X4_isOpen ki_X4_isOpen ml_X4_121 (rfl : SH 110 = _) (by decide) (vRo_of hxR (by decide) (by decide)) dX4_pipeTells_44 (Nat.le_of_ble_eq_true rfl) ?_
    refine v_if_ne 55 dX4_pipeTells_47 (by decide) (bP_R _) (fun h47 => ?_) (fun h47 => ?_)
    · skip
      have g := bP_n0.mp h47
      refine v_iload_n 3 dX4_pipeTells_55 rfl rfl ?_
      refine v_iconst dX4_pipeTells_56 ?_
      refine v_icmp_ne 70 dX4_pipeTells_57 (by decide) (by omega) (by decide) (fun h57 => ?_) (fun h57 => ?_)
      · skip
        refine v_iload_n 3 dX4_pipeTells_70 rfl rfl ?_
        refine v_iconst dX4_pipeTells_71 ?_
        refine v_icmp_ne 85 dX4_pipeTells_72 (by decide) (by omega) (by decide) (fun h72 => ?_) (fun h72 => ?_)
        · skip
          refine v_aload_n 0 dX4_pipeTells_85 rfl rfl ?_
          refine v_iload_n 1 dX4_pipeTells_86 rfl rfl ?_
          refine v_iload_n 2 dX4_pipeTells_87 rfl rfl ?_
          refine oVv2 4 (c_X4_pitch hLN hvN hI hC hst hs hk) k0_X4_pitch ki_X4_pitch ml_X4_195 (rfl : SH 110 = _) (by decide) (vRo_of hxR (by decide) (by decide)) dX4_pipeTells_88 (Nat.le_of_ble_eq_true rfl) ?_
          refine o_iret hQ hlk hrt dX4_pipeTells_91 ?_
          first | exact ⟨by rw [sPi, if_neg (by omega), if_neg (by omega)]; rw [if_pos (by simpa using g)], hF⟩ | exact ⟨by rw [sPi, if_neg (by omega), if_neg (by omega)]; rw [if_neg (by simpa using g), if_pos (by omega)], hF⟩ | exact ⟨by rw [sPi, if_neg (by omega), if_neg (by omega)]; rw [if_neg (by simpa using g), if_neg (by omega), if_pos (by omega)], hF⟩ | exact ⟨by rw [sPi, if_neg (by omega), if_neg (by omega)]; rw [if_neg (by simpa using g), if_neg (by omega), if_neg (by omega)], hF⟩
        · skip
          refine v_aload_n 0 dX4_pipeTells_75 rfl rfl ?_
          refine v_getR lk_X4_53 rfl (rfl : SH 110 = _) (mo_16 hLN) dX4_pipeTells_76 ?_
          refine v_iload dX4_pipeTells_79 rfl ?_
          refine o_iald (j := (24 * s) + k) (u := sGt v (sDrw v) true ((24 * s) + k)) (rfl : SH 125 = _) (by omega) (by omega) (hC.2.2 _ (by omega)) dX4_pipeTells_81 ?_
          refine v_goto 91 dX4_pipeTells_82 (by decide) ?_
          refine o_iret hQ hlk hrt dX4_pipeTells_91 ?_
          first | exact ⟨by rw [sPi, if_neg (by omega), if_neg (by omega)]; rw [if_pos (by simpa using g)], hF⟩ | exact ⟨by rw [sPi, if_neg (by omega), if_neg (by omega)]; rw [if_neg (by simpa using g), if_pos (by omega)], hF⟩ | exact ⟨by rw [sPi, if_neg (by omega), if_neg (by omega)]; rw [if_neg (by simpa using g), if_neg (by omega), if_pos (by omega)], hF⟩ | exact ⟨by rw [sPi, if_neg (by omega), if_neg (by omega)]; rw [if_neg (by simpa using g), if_neg (by omega), if_neg (by omega)], hF⟩
      · skip
        refine v_aload_n 0 dX4_pipeTells_60 rfl rfl ?_
        refine v_getR lk_X4_50 rfl (rfl : SH 110 = _) (mo_15 hLN) dX4_pipeTells_61 ?_
        refine v_iload dX4_pipeTells_64 rfl ?_
        refine o_iald (j := (24 * s) + k) (u := sAs v (sDrw v) true ((24 * s) + k)) (rfl : SH 124 = _) (by omega) (by omega) (hC.2.1 _ (by omega)) dX4_pipeTells_66 ?_
        refine v_goto 91 dX4_pipeTells_67 (by decide) ?_
        refine o_iret hQ hlk hrt dX4_pipeTells_91 ?_
        first | exact ⟨by rw [sPi, if_neg (by omega), if_neg (by omega)]; rw [if_pos (by simpa using g)], hF⟩ | exact ⟨by rw [sPi, if_neg (by omega), if_neg (by omega)]; rw [if_neg (by simpa using g), if_pos (by omega)], hF⟩ | exact ⟨by rw [sPi, if_neg (by omega), if_neg (by omega)]; rw [if_neg (by simpa using g), if_neg (by omega), if_pos (by omega)], hF⟩ | exact ⟨by rw [sPi, if_neg (by omega), if_neg (by omega)]; rw [if_neg (by simpa using g), if_neg (by omega), if_neg (by omega)], hF⟩
    · skip
      have g := bP_0.mp h47
      refine v_ldc (-1000005) kc_X4_177 (by decide) dX4_pipeTells_50 ?_
      refine v_goto 91 dX4_pipeTells_52 (by decide) ?_
      refine o_iret hQ hlk hrt dX4_pipeTells_91 ?_
      first | exact ⟨by rw [sPi, if_neg (by omega), if_neg (by omega)]; rw [if_pos (by simpa using g)], hF⟩ | exact ⟨by rw [sPi, if_neg (by omega), if_neg (by omega)]; rw [if_neg (by simpa using g), if_pos (by omega)], hF⟩ | exact ⟨by rw [sPi, if_neg (by omega), if_neg (by omega)]; rw [if_neg (by simpa using g), if_neg (by omega), if_pos (by omega)], hF⟩ | exact ⟨by rw [sPi, if_neg (by omega), if_neg (by omega)]; rw [if_neg (by simpa using g), if_neg (by omega), if_neg (by omega)], hF⟩
  · skip
    refine v_iload_n 3 dX4_pipeTells_13 rfl rfl ?_
    refine v_if_ne 26 dX4_pipeTells_14 (by decide) (by omega) (fun h14 => ?_) (fun h14 => ?_)
    · skip
      refine v_aload_n 0 dX4_pipeTells_26 rfl rfl ?_
      refine v_getR lk_X4_7 rfl (rfl : SH 110 = _) (mo_0 hLM) dX4_pipeTells_27 ?_
      refine v_bipush dX4_pipeTells_30 (by decide) ?_
      refine v_iload dX4_pipeTells_32 rfl ?_
      refine v_iadd dX4_pipeTells_34 ?_
      refine o_iald (j := 64 + ((24 * s) + k)) (u := v (64 + ((24 * s) + k))) (rfl : SH 111 = _) (by omega) (by omega) (by rw [hv]) dX4_pipeTells_35 ?_
      refine o_iret hQ hlk hrt dX4_pipeTells_36 ?_
      first | exact ⟨by rw [sPi, if_pos (by omega)], fr_rf⟩ | exact ⟨by rw [sPi, if_neg (by omega), if_pos (by omega)], fr_rf⟩
    · skip
      refine v_aload_n 0 dX4_pipeTells_17 rfl rfl ?_
      refine v_iload_n 1 dX4_pipeTells_18 rfl rfl ?_
      refine v_iload_n 2 dX4_pipeTells_19 rfl rfl ?_
      refine oVv2 4 (c_X4_need hLM hv hI hs hk) k0_X4_need ki_X4_need ml_X4_111 (rfl : SH 110 = _) (by decide) (vRo_of hxR (by decide) (by decide)) dX4_pipeTells_20 (Nat.le_of_ble_eq_true rfl) ?_
      refine v_goto 36 dX4_pipeTells_23 (by decide) ?_
      refine o_iret hQ hlk hrt dX4_pipeTells_36 ?_
      first | exact ⟨by rw [sPi, if_pos (by omega)], fr_rf⟩ | exact ⟨by rw [sPi, if_neg (by omega), if_pos (by omega)], fr_rf⟩
set_option maxRecDepth 100000 in
set_option maxHeartbeats 400000 in
theorem c_X4_reasonNow {l : Launch} {G : vGG} {M : Mem} {v : Sg} (hLM : LayM M.2) (hv : M.1 111 = v) (hI : sInv v) {s k : Nat} (hs : s < 8) (hk : k < 24) : Co l yX4_reasonNow cX4_reasonNow 3 (some .int) (rmo 3 70) G [aR (some 110), aI (s : Int), aI (k : Int)] M (fun r M' => r = some (aI (sRs v (sDrw v) true s k)) ∧ fr [120, 121, 122, 123, 124, 125] M M' ∧ SC v (sDrw v) true M') := by
  refine Co.ofV (plainFor_of_name (by decide)) rfl rfl ?_
  intro x hxl hxR hlk hrt Q hQ
  show vO x Q G cX4_reasonNow RX4 0 [some (aR (some 110)), some (aI (s : Int)), some (aI (k : Int))] [] M
  refine v_aload_n 0 dX4_reasonNow_0 rfl rfl ?_
  refine oVm0 4 (c_X4_laysNow hLM hv hI) k0_X4_laysNow ki_X4_laysNow ml_X4_131 (rfl : SH 110 = _) (by decide) (vRo_of hxR (by decide) (by decide)) dX4_reasonNow_1 (Nat.le_of_ble_eq_true rfl) (fun N hN => ?_)
  obtain ⟨hF, hC⟩ := hN
  have hLN := fr_lay hF hLM
  have hvN : N.1 111 = v := (hF.2 111 (by decide)).trans hv
  have hst := sDrw_lt hI
  refine v_aload_n 0 dX4_reasonNow_4 rfl rfl ?_
  refine v_iload_n 1 dX4_reasonNow_5 rfl rfl ?_
  refine v_iload_n 2 dX4_reasonNow_6 rfl rfl ?_
  refine v_aload_n 0 dX4_reasonNow_7 rfl rfl ?_
  refine oVv0 4 (c_X4_drawn hLN hvN hI) k0_X4_drawn ki_X4_drawn ml_X4_96 (rfl : SH 110 = _) (by decide) (vRo_of hxR (by decide) (by decide)) dX4_reasonNow_8 (Nat.le_of_ble_eq_true rfl) ?_
  refine oVv3 4 (c_X4_reasonOf hLN hvN hI hC hst hs hk) k0_X4_reasonOf ki_X4_reasonOf ml_X4_179 (rfl : SH 110 = _) (by decide) (vRo_of hxR (by decide) (by decide)) dX4_reasonNow_11 (Nat.le_of_ble_eq_true rfl) ?_
  refine o_iret hQ hlk hrt dX4_reasonNow_14 ?_
  exact ⟨rfl, hF, hC⟩
set_option maxRecDepth 100000 in
set_option maxHeartbeats 400000 in
theorem c_X4_tells {l : Launch} {G : vGG} {M : Mem} {v : Sg} (hLM : LayM M.2) (hv : M.1 111 = v) (hI : sInv v) {w : Nat} (hw : w < 10) : Co l yX4_tells cX4_tells 2 (some .int) (rmo 3 70) G [aR (some 110), aI (w : Int)] M (fun r M' => r = some (aI (sTell v w)) ∧ fr [120, 121, 122, 123, 124, 125] M M') := by
  refine Co.ofV (plainFor_of_name (by decide)) rfl rfl ?_
  intro x hxl hxR hlk hrt Q hQ
  show vO x Q G cX4_tells RX4 0 [some (aR (some 110)), some (aI (w : Int))] [] M
  refine v_aload_n 0 dX4_tells_0 rfl rfl ?_
  refine oVm0 4 (c_X4_laysNow hLM hv hI) k0_X4_laysNow ki_X4_laysNow ml_X4_131 (rfl : SH 110 = _) (by decide) (vRo_of hxR (by decide) (by decide)) dX4_tells_1 (Nat.le_of_ble_eq_true rfl) (fun N hN => ?_)
  obtain ⟨hF, hC⟩ := hN
  have hLN := fr_lay hF hLM
  have hvN : N.1 111 = v := (hF.2 111 (by decide)).trans hv
  have hst := sDrw_lt hI
  refine v_iload_n 1 dX4_tells_4 rfl rfl ?_
  rcases (show w = 0 ∨ w = 1 ∨ w = 2 ∨ w = 3 ∨ w = 4 ∨ w = 5 ∨ w = 6 ∨ w = 7 ∨ w = 8 ∨ w = 9 by omega) with rfl | rfl | rfl | rfl | rfl | rfl | rfl | rfl | rfl | rfl
  · skip
    refine v_tableIn 56 dX4_tells_5 (by decide) (by decide) (by decide) rfl (by decide) ?_
    refine v_aload_n 0 dX4_tells_56 rfl rfl ?_
    refine v_getR lk_X4_7 rfl (rfl : SH 110 = _) (mo_0 hLN) dX4_tells_57 ?_
    refine v_iconst dX4_tells_60 ?_
    refine o_iald (j := 0) (u := v (0)) (rfl : SH 111 = _) (by omega) (by omega) (by rw [hvN]) dX4_tells_61 ?_
    refine o_iret hQ hlk hrt dX4_tells_62 ?_
    exact ⟨by simp [sTell], hF⟩
  · skip
    refine v_tableIn 63 dX4_tells_5 (by decide) (by decide) (by decide) rfl (by decide) ?_
    refine v_aload_n 0 dX4_tells_63 rfl rfl ?_
    refine oVv0 4 (c_X4_reservoir hLN hvN hI) k0_X4_reservoir ki_X4_reservoir ml_X4_114 (rfl : SH 110 = _) (by decide) (vRo_of hxR (by decide) (by decide)) dX4_tells_64 (Nat.le_of_ble_eq_true rfl) ?_
    refine o_iret hQ hlk hrt dX4_tells_67 ?_
    exact ⟨by simp [sTell], hF⟩
  · skip
    refine v_tableIn 68 dX4_tells_5 (by decide) (by decide) (by decide) rfl (by decide) ?_
    refine v_aload_n 0 dX4_tells_68 rfl rfl ?_
    refine v_getR lk_X4_7 rfl (rfl : SH 110 = _) (mo_0 hLN) dX4_tells_69 ?_
    refine v_bipush dX4_tells_72 (by decide) ?_
    refine v_iload_n 1 dX4_tells_74 rfl rfl ?_
    refine v_iadd dX4_tells_75 ?_
    refine v_iconst dX4_tells_76 ?_
    refine v_isub dX4_tells_77 ?_
    refine o_iald (j := 13) (u := v (13)) (rfl : SH 111 = _) (by omega) (by omega) (by rw [hvN]) dX4_tells_78 ?_
    refine o_iret hQ hlk hrt dX4_tells_79 ?_
    exact ⟨by simp [sTell], hF⟩
  · skip
    refine v_tableIn 68 dX4_tells_5 (by decide) (by decide) (by decide) rfl (by decide) ?_
    refine v_aload_n 0 dX4_tells_68 rfl rfl ?_
    refine v_getR lk_X4_7 rfl (rfl : SH 110 = _) (mo_0 hLN) dX4_tells_69 ?_
    refine v_bipush dX4_tells_72 (by decide) ?_
    refine v_iload_n 1 dX4_tells_74 rfl rfl ?_
    refine v_iadd dX4_tells_75 ?_
    refine v_iconst dX4_tells_76 ?_
    refine v_isub dX4_tells_77 ?_
    refine o_iald (j := 14) (u := v (14)) (rfl : SH 111 = _) (by omega) (by omega) (by rw [hvN]) dX4_tells_78 ?_
    refine o_iret hQ hlk hrt dX4_tells_79 ?_
    exact ⟨by simp [sTell], hF⟩
  · skip
    refine v_tableIn 68 dX4_tells_5 (by decide) (by decide) (by decide) rfl (by decide) ?_
    refine v_aload_n 0 dX4_tells_68 rfl rfl ?_
    refine v_getR lk_X4_7 rfl (rfl : SH 110 = _) (mo_0 hLN) dX4_tells_69 ?_
    refine v_bipush dX4_tells_72 (by decide) ?_
    refine v_iload_n 1 dX4_tells_74 rfl rfl ?_
    refine v_iadd dX4_tells_75 ?_
    refine v_iconst dX4_tells_76 ?_
    refine v_isub dX4_tells_77 ?_
    refine o_iald (j := 15) (u := v (15)) (rfl : SH 111 = _) (by omega) (by omega) (by rw [hvN]) dX4_tells_78 ?_
    refine o_iret hQ hlk hrt dX4_tells_79 ?_
    exact ⟨by simp [sTell], hF⟩
  · skip
    refine v_tableIn 68 dX4_tells_5 (by decide) (by decide) (by decide) rfl (by decide) ?_
    refine v_aload_n 0 dX4_tells_68 rfl rfl ?_
    refine v_getR lk_X4_7 rfl (rfl : SH 110 = _) (mo_0 hLN) dX4_tells_69 ?_
    refine v_bipush dX4_tells_72 (by decide) ?_
    refine v_iload_n 1 dX4_tells_74 rfl rfl ?_
    refine v_iadd dX4_tells_75 ?_
    refine v_iconst dX4_tells_76 ?_
    refine v_isub dX4_tells_77 ?_
    refine o_iald (j := 16) (u := v (16)) (rfl : SH 111 = _) (by omega) (by omega) (by rw [hvN]) dX4_tells_78 ?_
    refine o_iret hQ hlk hrt dX4_tells_79 ?_
    exact ⟨by simp [sTell], hF⟩
  · skip
    refine v_tableIn 80 dX4_tells_5 (by decide) (by decide) (by decide) rfl (by decide) ?_
    refine v_aload_n 0 dX4_tells_80 rfl rfl ?_
    refine oVv0 4 (c_X4_openMany hLN hvN hI hC hst) k0_X4_openMany ki_X4_openMany ml_X4_183 (rfl : SH 110 = _) (by decide) (vRo_of hxR (by decide) (by decide)) dX4_tells_81 (Nat.le_of_ble_eq_true rfl) ?_
    refine o_iret hQ hlk hrt dX4_tells_84 ?_
    exact ⟨by simp [sTell], hF⟩
  · skip
    refine v_tableIn 85 dX4_tells_5 (by decide) (by decide) (by decide) rfl (by decide) ?_
    refine v_aload_n 0 dX4_tells_85 rfl rfl ?_
    refine v_aload_n 0 dX4_tells_86 rfl rfl ?_
    refine oVv0 4 (c_X4_drawn hLN hvN hI) k0_X4_drawn ki_X4_drawn ml_X4_96 (rfl : SH 110 = _) (by decide) (vRo_of hxR (by decide) (by decide)) dX4_tells_87 (Nat.le_of_ble_eq_true rfl) ?_
    refine oVv1 4 (c_X4_speaking hLN hvN hI hC hst) k0_X4_speaking ki_X4_speaking ml_X4_186 (rfl : SH 110 = _) (by decide) (vRo_of hxR (by decide) (by decide)) dX4_tells_90 (Nat.le_of_ble_eq_true rfl) ?_
    refine o_iret hQ hlk hrt dX4_tells_93 ?_
    exact ⟨by simp [sTell], hF⟩
  · skip
    refine v_tableIn 94 dX4_tells_5 (by decide) (by decide) (by decide) rfl (by decide) ?_
    refine v_aload_n 0 dX4_tells_94 rfl rfl ?_
    refine oVv0 4 (c_X4_ciphersAll hLN hvN hI) k0_X4_ciphersAll ki_X4_ciphersAll ml_X4_87 (rfl : SH 110 = _) (by decide) (vRo_of hxR (by decide) (by decide)) dX4_tells_95 (Nat.le_of_ble_eq_true rfl) ?_
    refine o_iret hQ hlk hrt dX4_tells_98 ?_
    exact ⟨by simp [sTell], hF⟩
  · skip
    refine v_tableOut 99 dX4_tells_5 (by decide) (by omega) (by decide) ?_
    refine v_aload_n 0 dX4_tells_99 rfl rfl ?_
    refine v_getR lk_X4_7 rfl (rfl : SH 110 = _) (mo_0 hLN) dX4_tells_100 ?_
    refine v_bipush dX4_tells_103 (by decide) ?_
    refine o_iald (j := 20) (u := v (20)) (rfl : SH 111 = _) (by omega) (by omega) (by rw [hvN]) dX4_tells_105 ?_
    refine o_iret hQ hlk hrt dX4_tells_106 ?_
    exact ⟨by simp [sTell], hF⟩
