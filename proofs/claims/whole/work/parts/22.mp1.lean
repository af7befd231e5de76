/-! ===== the twin: what is open, asked for, got ===== -/
theorem dr_step {v : Sg} (hI : sInv v) {s : Nat} (hs : s < 8) : vor ((sDr v s : Nat) : Int) (vshl (v (24 + 5 * s + 3)) (s : Int)) = ((sDr v (s + 1) : Nat) : Int) := by
  have hq := (iv_st hI hs).2.2.2.1
  have hb := sDr_b hI s (by omega)
  have hp : 2 ^ s ≤ 128 := Nat.pow_le_pow_right (by decide) (show s ≤ 7 by omega)
  have hm : (v (24 + 5 * s + 3)).toNat * 2 ^ s ≤ 2 ^ s := by
    rcases (show (v (24 + 5 * s + 3)).toNat = 0 ∨ (v (24 + 5 * s + 3)).toNat = 1 by omega) with e | e <;> rw [e] <;> omega
  rw [nu_shl hq.1 (by omega) (by omega), nu_or (by omega) (by omega) (by omega) (by omega), Int.toNat_natCast, Int.toNat_natCast, sDr, Nat.or_comm, Nat.mul_comm, ← Nat.two_pow_add_eq_or_of_lt hb, Nat.add_comm]
set_option maxRecDepth 100000 in
set_option maxHeartbeats 400000 in
theorem c_X4_drawn {l : Launch} {G : vGG} {M : Mem} {v : Sg} (hLM : LayM M.2) (hv : M.1 111 = v) (hI : sInv v) : Cv l yX4_drawn cX4_drawn 3 (some .int) (rmo 0 0) G [aR (some 110)] M (some (aI ((sDrw v : Nat) : Int))) M := by
  refine Co.ofV (plainFor_of_name (by decide)) rfl rfl ?_
  intro x hxl hxR hlk hrt Q hQ
  show vO x Q G cX4_drawn RX4 0 [some (aR (some 110)), none, none] [] M
  refine v_iconst dX4_drawn_0 ?_
  refine v_ist1 dX4_drawn_1 rfl ?_
  refine v_iconst dX4_drawn_2 ?_
  refine v_ist2 dX4_drawn_3 rfl ?_
  have lp4 : ∀ (dd s : Nat), s + dd = 8 → vO x Q G cX4_drawn RX4 4 [some (aR (some 110)), some (aI ((sDr v s : Nat) : Int)), some (aI (s : Int))] [] M := by
    intro dd
    induction dd with
    | zero =>
      intro s hd
      refine v_iload_n 2 dX4_drawn_4 rfl rfl ?_
      refine v_bipush dX4_drawn_5 (by decide) ?_
      refine v_icmp_ge 34 dX4_drawn_7 (by decide) (by omega) (by decide) (fun h7 => ?_) (fun h7 => ?_)
      · skip
        refine v_iload_n 1 dX4_drawn_34 rfl rfl ?_
        refine o_iret hQ hlk hrt dX4_drawn_35 ?_
        exact ⟨by rw [show s = 8 by omega]; rfl, rfl⟩
      · skip
        exact absurd h7 (by omega)
    | succ dd ih =>
      intro s hd
      refine v_iload_n 2 dX4_drawn_4 rfl rfl ?_
      refine v_bipush dX4_drawn_5 (by decide) ?_
      refine v_icmp_ge 34 dX4_drawn_7 (by decide) (by omega) (by decide) (fun h7 => ?_) (fun h7 => ?_)
      · skip
        exact absurd h7 (by omega)
      · skip
        refine v_iload_n 1 dX4_drawn_10 rfl rfl ?_
        refine v_aload_n 0 dX4_drawn_11 rfl rfl ?_
        refine v_getR lk_X4_7 rfl (rfl : SH 110 = _) (mo_0 hLM) dX4_drawn_12 ?_
        refine v_bipush dX4_drawn_15 (by decide) ?_
        refine v_iconst dX4_drawn_17 ?_
        refine v_iload_n 2 dX4_drawn_18 rfl rfl ?_
        refine v_imul dX4_drawn_19 ?_
        refine v_iadd dX4_drawn_20 ?_
        refine v_iconst dX4_drawn_21 ?_
        refine v_iadd dX4_drawn_22 ?_
        refine o_iald (j := (24 + (5 * s)) + 3) (u := v ((24 + (5 * s)) + 3)) (rfl : SH 111 = _) (by omega) (by omega) (by rw [hv]) dX4_drawn_23 ?_
        refine v_iload_n 2 dX4_drawn_24 rfl rfl ?_
        refine v_ishl dX4_drawn_25 ?_
        have hq := (iv_st hI (show s < 8 by omega)).2.2.2.1
        have hb := sDr_b hI s (by omega)
        have hp : 2 ^ s ≤ 128 := Nat.pow_le_pow_right (by decide) (show s ≤ 7 by omega)
        refine v_ior dX4_drawn_26 ?_
        refine o_eqI (dr_step hI (show s < 8 by omega)) ?_
        refine v_ist1 dX4_drawn_27 rfl ?_
        refine v_iinc2 dX4_drawn_28 rfl ?_
        refine v_goto 4 dX4_drawn_31 (by decide) ?_
        exact ih (s + 1) (by omega)
  exact lp4 8 0 rfl
set_option maxRecDepth 100000 in
set_option maxHeartbeats 400000 in
theorem c_X4_puts {l : Launch} {G : vGG} {M : Mem} {j : Nat} {z : Int} (hLM : LayM M.2) (hj : j < 264) : Cv l yX4_puts cX4_puts 4 (some .int) (rmo 0 0) G [aR (some 110), aI (j : Int), aI z] M (some (aI (M.1 111 j))) (vup M.1 111 j z, M.2) := by
  refine Co.ofV (plainFor_of_name (by decide)) rfl rfl ?_
  intro x hxl hxR hlk hrt Q hQ
  show vO x Q G cX4_puts RX4 0 [some (aR (some 110)), some (aI (j : Int)), some (aI z), none] [] M
  refine v_aload_n 0 dX4_puts_0 rfl rfl ?_
  refine v_getR lk_X4_7 rfl (rfl : SH 110 = _) (mo_0 hLM) dX4_puts_1 ?_
  refine v_iload_n 1 dX4_puts_4 rfl rfl ?_
  refine o_iald (j := j) (u := _) (rfl : SH 111 = _) (by omega) (by omega) rfl dX4_puts_5 ?_
  refine v_ist3 dX4_puts_6 rfl ?_
  refine v_aload_n 0 dX4_puts_7 rfl rfl ?_
  refine v_getR lk_X4_7 rfl (rfl : SH 110 = _) (mo_0 hLM) dX4_puts_8 ?_
  refine v_iload_n 1 dX4_puts_11 rfl rfl ?_
  refine v_iload_n 2 dX4_puts_12 rfl rfl ?_
  refine o_iast (j := j) (by omega) (rfl : SH 111 = _) (by omega) (by omega) dX4_puts_13 ?_
  refine v_iload_n 3 dX4_puts_14 rfl rfl ?_
  refine o_iret hQ hlk hrt dX4_puts_15 ?_
  exact ⟨rfl, rfl⟩
set_option maxRecDepth 100000 in
set_option maxHeartbeats 400000 in
theorem c_X4_need {l : Launch} {G : vGG} {M : Mem} {v : Sg} (hLM : LayM M.2) (hv : M.1 111 = v) (hI : sInv v) {s k : Nat} (hs : s < 8) (hk : k < 24) : Cv l yX4_need cX4_need 3 (some .int) (rmo 0 0) G [aR (some 110), aI (s : Int), aI (k : Int)] M (some (aI (sNeed v s k))) M := by
  refine Co.ofV (plainFor_of_name (by decide)) rfl rfl ?_
  intro x hxl hxR hlk hrt Q hQ
  show vO x Q G cX4_need RX4 0 [some (aR (some 110)), some (aI (s : Int)), some (aI (k : Int))] [] M
  refine v_aload_n 0 dX4_need_0 rfl rfl ?_
  refine v_getR lk_X4_7 rfl (rfl : SH 110 = _) (mo_0 hLM) dX4_need_1 ?_
  refine v_bipush dX4_need_4 (by decide) ?_
  refine v_iconst dX4_need_6 ?_
  refine v_iload_n 1 dX4_need_7 rfl rfl ?_
  refine v_imul dX4_need_8 ?_
  refine v_iadd dX4_need_9 ?_
  refine v_iconst dX4_need_10 ?_
  refine v_iadd dX4_need_11 ?_
  refine o_iald (j := (24 + (5 * s)) + 1) (u := v ((24 + (5 * s)) + 1)) (rfl : SH 111 = _) (by omega) (by omega) (by rw [hv]) dX4_need_12 ?_
  refine v_bipush dX4_need_13 (by decide) ?_
  refine v_iload_n 2 dX4_need_15 rfl rfl ?_
  refine v_isub dX4_need_16 ?_
  refine v_iconst dX4_need_17 ?_
  refine v_idiv dX4_need_18 (by omega) (by decide) (by omega) ?_
  refine v_iadd dX4_need_19 ?_
  refine o_iret hQ hlk hrt dX4_need_20 ?_
  exact ⟨by rw [nu_tdiv (by omega)]; rfl, rfl⟩
theorem rs_b {v : Sg} (h : sInv v) : 0 ≤ v 1 * v 0 ∧ v 1 * v 0 ≤ 4000000 := by
  have h1 := iv_set h
  have h2 := iv_bel h
  refine ⟨Int.mul_nonneg (by omega) (by omega), ?_⟩
  have h3 : v 1 * v 0 ≤ v 1 * 20000 := Int.mul_le_mul_of_nonneg_left (by omega) (by omega)
  omega
set_option maxRecDepth 100000 in
set_option maxHeartbeats 400000 in
theorem c_X4_reservoir {l : Launch} {G : vGG} {M : Mem} {v : Sg} (hLM : LayM M.2) (hv : M.1 111 = v) (hI : sInv v) : Cv l yX4_reservoir cX4_reservoir 1 (some .int) (rmo 0 0) G [aR (some 110)] M (some (aI (sRes v))) M := by
  refine Co.ofV (plainFor_of_name (by decide)) rfl rfl ?_
  intro x hxl hxR hlk hrt Q hQ
  have hs := iv_set hI
  have hb := iv_bel hI
  show vO x Q G cX4_reservoir RX4 0 [some (aR (some 110))] [] M
  refine v_aload_n 0 dX4_reservoir_0 rfl rfl ?_
  refine v_getR lk_X4_7 rfl (rfl : SH 110 = _) (mo_0 hLM) dX4_reservoir_1 ?_
  refine v_iconst dX4_reservoir_4 ?_
  refine o_iald (j := 0) (u := v (0)) (rfl : SH 111 = _) (by omega) (by omega) (by rw [hv]) dX4_reservoir_5 ?_
  refine v_aload_n 0 dX4_reservoir_6 rfl rfl ?_
  refine v_getR lk_X4_7 rfl (rfl : SH 110 = _) (mo_0 hLM) dX4_reservoir_7 ?_
  refine v_iconst dX4_reservoir_10 ?_
  refine o_iald (j := 4) (u := v (4)) (rfl : SH 111 = _) (by omega) (by omega) (by rw [hv]) dX4_reservoir_11 ?_
  refine v_icmp_lt 24 dX4_reservoir_12 (by decide) (by omega) (by omega) (fun h12 => ?_) (fun h12 => ?_)
  · skip
    refine v_aload_n 0 dX4_reservoir_24 rfl rfl ?_
    refine v_getR lk_X4_7 rfl (rfl : SH 110 = _) (mo_0 hLM) dX4_reservoir_25 ?_
    refine v_iconst dX4_reservoir_28 ?_
    refine o_iald (j := 1) (u := v (1)) (rfl : SH 111 = _) (by omega) (by omega) (by rw [hv]) dX4_reservoir_29 ?_
    refine v_aload_n 0 dX4_reservoir_30 rfl rfl ?_
    refine v_getR lk_X4_7 rfl (rfl : SH 110 = _) (mo_0 hLM) dX4_reservoir_31 ?_
    refine v_iconst dX4_reservoir_34 ?_
    refine o_iald (j := 0) (u := v (0)) (rfl : SH 111 = _) (by omega) (by omega) (by rw [hv]) dX4_reservoir_35 ?_
    refine v_imul dX4_reservoir_36 ?_
    refine v_aload_n 0 dX4_reservoir_37 rfl rfl ?_
    refine v_getR lk_X4_7 rfl (rfl : SH 110 = _) (mo_0 hLM) dX4_reservoir_38 ?_
    refine v_iconst dX4_reservoir_41 ?_
    refine o_iald (j := 4) (u := v (4)) (rfl : SH 111 = _) (by omega) (by omega) (by rw [hv]) dX4_reservoir_42 ?_
    have hm := rs_b hI
    refine v_idiv dX4_reservoir_43 (by omega) (by omega) (by omega) ?_
    refine o_iret hQ hlk hrt dX4_reservoir_44 ?_
    first | exact ⟨by unfold sRes; rw [if_pos (by omega)], rfl⟩ | exact ⟨by unfold sRes; rw [if_neg (by omega), nu_tdiv hm.1], rfl⟩
  · skip
    refine v_aload_n 0 dX4_reservoir_15 rfl rfl ?_
    refine v_getR lk_X4_7 rfl (rfl : SH 110 = _) (mo_0 hLM) dX4_reservoir_16 ?_
    refine v_iconst dX4_reservoir_19 ?_
    refine o_iald (j := 1) (u := v (1)) (rfl : SH 111 = _) (by omega) (by omega) (by rw [hv]) dX4_reservoir_20 ?_
    refine v_goto 44 dX4_reservoir_21 (by decide) ?_
    refine o_iret hQ hlk hrt dX4_reservoir_44 ?_
    first | exact ⟨by unfold sRes; rw [if_pos (by omega)], rfl⟩ | exact ⟨by unfold sRes; rw [if_neg (by omega), nu_tdiv hm.1], rfl⟩
theorem ac0_t1 {v : Sg} (h : sInv v) (hc : 2 ≤ v 10) : vand (vor (v 11) (vshl (v 11) 12)) 16777215 = ((sAct0 v true : Nat) : Int) := by
  have hk := iv_key h
  rw [nu_octM hk.2.1.1 hk.2.1.2, sAct0, if_pos hc]
  rfl
theorem ac0_t0 {v : Sg} (h : sInv v) (hc : ¬ 2 ≤ v 10) : vand (vor (v 11) 0) 16777215 = ((sAct0 v true : Nat) : Int) := by
  have hk := iv_key h
  rw [nu_noct hk.2.1.1 hk.2.1.2, sAct0, if_neg hc]
  show v 11 = (((v 11).toNat : Nat) : Int)
  omega
theorem ac0_f1 {v : Sg} (_ : sInv v) (hc : 2 ≤ v 10) : vand (vor 0 (vshl 0 12)) 16777215 = ((sAct0 v false : Nat) : Int) := by
  rw [nu_octM (by decide) (by decide), sAct0, if_pos hc]
  rfl
theorem ac0_f0 {v : Sg} (_ : sInv v) (hc : ¬ 2 ≤ v 10) : vand (vor 0 0) 16777215 = ((sAct0 v false : Nat) : Int) := by
  rw [nu_noct (by decide) (by decide), sAct0, if_neg hc]
  rfl
theorem ac1_t1 {v : Sg} (h : sInv v) (hd : v 10 % 2 = 1) : vor (v 12) ((sAct0 v true : Nat) : Int) = ((sAct1 v true : Nat) : Int) := by
  have hk := iv_key h
  have h0 := sAct0_lt h true
  rw [nu_or hk.2.2.1 (by omega) (by omega) (by omega), Int.toNat_natCast, sAct1, if_pos hd]
  rfl
theorem ac1_t0 {v : Sg} (h : sInv v) (hd : ¬ v 10 % 2 = 1) : vor (v 12) 0 = ((sAct1 v true : Nat) : Int) := by
  have hk := iv_key h
  rw [nu_or hk.2.2.1 (by omega) (by omega) (by omega), sAct1, if_neg hd]
  show (((v 12).toNat ||| 0 : Nat) : Int) = _
  rw [Nat.or_zero]
  rfl
theorem ac1_f1 {v : Sg} (h : sInv v) (hd : v 10 % 2 = 1) : vor 0 ((sAct0 v false : Nat) : Int) = ((sAct1 v false : Nat) : Int) := by
  have h0 := sAct0_lt h false
  rw [nu_or (by decide) (by decide) (by omega) (by omega), Int.toNat_natCast, sAct1, if_pos hd]
  rfl
theorem ac1_f0 {v : Sg} (_ : sInv v) (hd : ¬ v 10 % 2 = 1) : vor 0 0 = ((sAct1 v false : Nat) : Int) := by
  rw [sAct1, if_neg hd]
  show vor 0 0 = ((0 : Nat) : Int)
  decide
set_option maxRecDepth 100000 in
set_option maxHeartbeats 400000 in
theorem c_X4_acts_t {l : Launch} {G : vGG} {M : Mem} {v : Sg} (hLM : LayM M.2) (hv : M.1 111 = v) (hI : sInv v) : Co l yX4_acts cX4_acts 4 none (rmo 0 0) G [aR (some 110), aI 1] M (fun r M' => r = none ∧ fr [120] M M' ∧ ∀ m, m < 2 → M'.1 120 m = ((sAct v true m : Nat) : Int)) := by
  refine Co.ofV (plainFor_of_name (by decide)) rfl rfl ?_
  intro x hxl hxR hlk hrt Q hQ
  have hk := iv_key hI
  show vO x Q G cX4_acts RX4 0 [some (aR (some 110)), some (aI 1), none, none] [] M
  refine v_iload_n 1 dX4_acts_0 rfl rfl ?_
  refine v_if_eq 14 dX4_acts_1 (by decide) (by decide) (fun h1 => ?_) (fun h1 => ?_)
  · skip
    exact absurd h1 (by decide)
  · skip
    refine v_aload_n 0 dX4_acts_4 rfl rfl ?_
    refine v_getR lk_X4_7 rfl (rfl : SH 110 = _) (mo_0 hLM) dX4_acts_5 ?_
    refine v_bipush dX4_acts_8 (by decide) ?_
    refine o_iald (j := 11) (u := v (11)) (rfl : SH 111 = _) (by omega) (by omega) (by simp [vup, hv]) dX4_acts_10 ?_
    refine v_goto 15 dX4_acts_11 (by decide) ?_
    refine v_ist2 dX4_acts_15 rfl ?_
    refine v_iload_n 1 dX4_acts_16 rfl rfl ?_
    refine v_if_eq 30 dX4_acts_17 (by decide) (by decide) (fun h17 => ?_) (fun h17 => ?_)
    · skip
      exact absurd h17 (by decide)
    · skip
      refine v_aload_n 0 dX4_acts_20 rfl rfl ?_
      refine v_getR lk_X4_7 rfl (rfl : SH 110 = _) (mo_0 hLM) dX4_acts_21 ?_
      refine v_bipush dX4_acts_24 (by decide) ?_
      refine o_iald (j := 12) (u := v (12)) (rfl : SH 111 = _) (by omega) (by omega) (by simp [vup, hv]) dX4_acts_26 ?_
      refine v_goto 31 dX4_acts_27 (by decide) ?_
      refine v_ist3 dX4_acts_31 rfl ?_
      refine v_aload_n 0 dX4_acts_32 rfl rfl ?_
      refine v_getR lk_X4_38 rfl (rfl : SH 110 = _) (mo_11 hLM) dX4_acts_33 ?_
      refine v_iconst dX4_acts_36 ?_
      refine v_iload_n 2 dX4_acts_37 rfl rfl ?_
      refine v_aload_n 0 dX4_acts_38 rfl rfl ?_
      refine v_getR lk_X4_7 rfl (rfl : SH 110 = _) (mo_0 hLM) dX4_acts_39 ?_
      refine v_bipush dX4_acts_42 (by decide) ?_
      refine o_iald (j := 10) (u := v (10)) (rfl : SH 111 = _) (by omega) (by omega) (by simp [vup, hv]) dX4_acts_44 ?_
      refine v_iconst dX4_acts_45 ?_
      refine v_iand dX4_acts_46 ?_
      refine v_iconst dX4_acts_47 ?_
      have e2 := nu_cp2 hk.1.1 hk.1.2
      refine v_icmp_ne 58 dX4_acts_48 (by decide) (vand_R _ _) (by decide) (fun h48 => ?_) (fun h48 => ?_)
      · skip
        have hc : ¬ 2 ≤ v 10 := fun q => h48 (e2.mpr q)
        refine v_iconst dX4_acts_58 ?_
        refine v_ior dX4_acts_59 ?_
        refine v_ldc (16777215) kc_X4_106 (by decide) dX4_acts_60 ?_
        refine v_iand dX4_acts_62 ?_
        refine o_eqI (u := ((sAct0 v true : Nat) : Int)) (by first | with_reducible exact ac0_t1 hI hc | with_reducible exact ac0_t0 hI hc) ?_
        refine o_iast (j := 0) (by omega) (rfl : SH 120 = _) (by omega) (by omega) dX4_acts_63 ?_
        refine v_aload_n 0 dX4_acts_64 rfl rfl ?_
        refine v_getR lk_X4_38 rfl (rfl : SH 110 = _) (mo_11 hLM) dX4_acts_65 ?_
        refine v_iconst dX4_acts_68 ?_
        refine v_iload_n 3 dX4_acts_69 rfl rfl ?_
        refine v_aload_n 0 dX4_acts_70 rfl rfl ?_
        refine v_getR lk_X4_7 rfl (rfl : SH 110 = _) (mo_0 hLM) dX4_acts_71 ?_
        refine v_bipush dX4_acts_74 (by decide) ?_
        refine o_iald (j := 10) (u := v (10)) (rfl : SH 111 = _) (by omega) (by omega) (by simp [vup, hv]) dX4_acts_76 ?_
        refine v_iconst dX4_acts_77 ?_
        refine v_iand dX4_acts_78 ?_
        refine v_iconst dX4_acts_79 ?_
        have e1 := nu_cp1 hk.1.1 hk.1.2
        refine v_icmp_ne 92 dX4_acts_80 (by decide) (vand_R _ _) (by decide) (fun h80 => ?_) (fun h80 => ?_)
        · skip
          have hd : ¬ v 10 % 2 = 1 := fun q => h80 (e1.mpr q)
          refine v_iconst dX4_acts_92 ?_
          refine v_ior dX4_acts_93 ?_
          refine o_eqI (u := ((sAct1 v true : Nat) : Int)) (by first | with_reducible exact ac1_t1 hI hd | with_reducible exact ac1_t0 hI hd) ?_
          refine o_iast (j := 1) (by omega) (rfl : SH 120 = _) (by omega) (by omega) dX4_acts_94 ?_
          refine o_ret hQ hlk hrt dX4_acts_95 ?_
          exact ⟨rfl, fr_up (fr_up fr_rf (by decide) _ _) (by decide) _ _, fun m hm => by rcases (show m = 0 ∨ m = 1 by omega) with rfl | rfl <;> simp [vup, sAct]⟩
        · skip
          have hd := e1.mp h80
          refine v_aload_n 0 dX4_acts_83 rfl rfl ?_
          refine v_getR lk_X4_38 rfl (rfl : SH 110 = _) (mo_11 hLM) dX4_acts_84 ?_
          refine v_iconst dX4_acts_87 ?_
          refine o_iald (j := 0) (u := ((sAct0 v true : Nat) : Int)) (rfl : SH 120 = _) (by omega) (by omega) (by simp [vup]) dX4_acts_88 ?_
          refine v_goto 93 dX4_acts_89 (by decide) ?_
          refine v_ior dX4_acts_93 ?_
          refine o_eqI (u := ((sAct1 v true : Nat) : Int)) (by first | with_reducible exact ac1_t1 hI hd | with_reducible exact ac1_t0 hI hd) ?_
          refine o_iast (j := 1) (by omega) (rfl : SH 120 = _) (by omega) (by omega) dX4_acts_94 ?_
          refine o_ret hQ hlk hrt dX4_acts_95 ?_
          exact ⟨rfl, fr_up (fr_up fr_rf (by decide) _ _) (by decide) _ _, fun m hm => by rcases (show m = 0 ∨ m = 1 by omega) with rfl | rfl <;> simp [vup, sAct]⟩
      · skip
        have hc := e2.mp h48
        refine v_iload_n 2 dX4_acts_51 rfl rfl ?_
        refine v_bipush dX4_acts_52 (by decide) ?_
        refine v_ishl dX4_acts_54 ?_
        refine v_goto 59 dX4_acts_55 (by decide) ?_
        refine v_ior dX4_acts_59 ?_
        refine v_ldc (16777215) kc_X4_106 (by decide) dX4_acts_60 ?_
        refine v_iand dX4_acts_62 ?_
        refine o_eqI (u := ((sAct0 v true : Nat) : Int)) (by first | with_reducible exact ac0_t1 hI hc | with_reducible exact ac0_t0 hI hc) ?_
        refine o_iast (j := 0) (by omega) (rfl : SH 120 = _) (by omega) (by omega) dX4_acts_63 ?_
        refine v_aload_n 0 dX4_acts_64 rfl rfl ?_
        refine v_getR lk_X4_38 rfl (rfl : SH 110 = _) (mo_11 hLM) dX4_acts_65 ?_
        refine v_iconst dX4_acts_68 ?_
        refine v_iload_n 3 dX4_acts_69 rfl rfl ?_
        refine v_aload_n 0 dX4_acts_70 rfl rfl ?_
        refine v_getR lk_X4_7 rfl (rfl : SH 110 = _) (mo_0 hLM) dX4_acts_71 ?_
        refine v_bipush dX4_acts_74 (by decide) ?_
        refine o_iald (j := 10) (u := v (10)) (rfl : SH 111 = _) (by omega) (by omega) (by simp [vup, hv]) dX4_acts_76 ?_
        refine v_iconst dX4_acts_77 ?_
        refine v_iand dX4_acts_78 ?_
        refine v_iconst dX4_acts_79 ?_
        have e1 := nu_cp1 hk.1.1 hk.1.2
        refine v_icmp_ne 92 dX4_acts_80 (by decide) (vand_R _ _) (by decide) (fun h80 => ?_) (fun h80 => ?_)
        · skip
          have hd : ¬ v 10 % 2 = 1 := fun q => h80 (e1.mpr q)
          refine v_iconst dX4_acts_92 ?_
          refine v_ior dX4_acts_93 ?_
          refine o_eqI (u := ((sAct1 v true : Nat) : Int)) (by first | with_reducible exact ac1_t1 hI hd | with_reducible exact ac1_t0 hI hd) ?_
          refine o_iast (j := 1) (by omega) (rfl : SH 120 = _) (by omega) (by omega) dX4_acts_94 ?_
          refine o_ret hQ hlk hrt dX4_acts_95 ?_
          exact ⟨rfl, fr_up (fr_up fr_rf (by decide) _ _) (by decide) _ _, fun m hm => by rcases (show m = 0 ∨ m = 1 by omega) with rfl | rfl <;> simp [vup, sAct]⟩
        · skip
          have hd := e1.mp h80
          refine v_aload_n 0 dX4_acts_83 rfl rfl ?_
          refine v_getR lk_X4_38 rfl (rfl : SH 110 = _) (mo_11 hLM) dX4_acts_84 ?_
          refine v_iconst dX4_acts_87 ?_
          refine o_iald (j := 0) (u := ((sAct0 v true : Nat) : Int)) (rfl : SH 120 = _) (by omega) (by omega) (by simp [vup]) dX4_acts_88 ?_
          refine v_goto 93 dX4_acts_89 (by decide) ?_
          refine v_ior dX4_acts_93 ?_
          refine o_eqI (u := ((sAct1 v true : Nat) : Int)) (by first | with_reducible exact ac1_t1 hI hd | with_reducible exact ac1_t0 hI hd) ?_
          refine o_iast (j := 1) (by omega) (rfl : SH 120 = _) (by omega) (by omega) dX4_acts_94 ?_
          refine o_ret hQ hlk hrt dX4_acts_95 ?_
          exact ⟨rfl, fr_up (fr_up fr_rf (by decide) _ _) (by decide) _ _, fun m hm => by rcases (show m = 0 ∨ m = 1 by omega) with rfl | rfl <;> simp [vup, sAct]⟩
set_option maxRecDepth 100000 in
set_option maxHeartbeats 400000 in
theorem c_X4_acts_f {l : Launch} {G : vGG} {M : Mem} {v : Sg} (hLM : LayM M.2) (hv : M.1 111 = v) (hI : sInv v) : Co l yX4_acts cX4_acts 4 none (rmo 0 0) G [aR (some 110), aI 0] M (fun r M' => r = none ∧ fr [120] M M' ∧ ∀ m, m < 2 → M'.1 120 m = ((sAct v false m : Nat) : Int)) := by
  refine Co.ofV (plainFor_of_name (by decide)) rfl rfl ?_
  intro x hxl hxR hlk hrt Q hQ
  have hk := iv_key hI
  show vO x Q G cX4_acts RX4 0 [some (aR (some 110)), some (aI 0), none, none] [] M
  refine v_iload_n 1 dX4_acts_0 rfl rfl ?_
  refine v_if_eq 14 dX4_acts_1 (by decide) (by decide) (fun h1 => ?_) (fun h1 => ?_)
  · skip
    refine v_iconst dX4_acts_14 ?_
    refine v_ist2 dX4_acts_15 rfl ?_
    refine v_iload_n 1 dX4_acts_16 rfl rfl ?_
    refine v_if_eq 30 dX4_acts_17 (by decide) (by decide) (fun h17 => ?_) (fun h17 => ?_)
    · skip
      refine v_iconst dX4_acts_30 ?_
      refine v_ist3 dX4_acts_31 rfl ?_
      refine v_aload_n 0 dX4_acts_32 rfl rfl ?_
      refine v_getR lk_X4_38 rfl (rfl : SH 110 = _) (mo_11 hLM) dX4_acts_33 ?_
      refine v_iconst dX4_acts_36 ?_
      refine v_iload_n 2 dX4_acts_37 rfl rfl ?_
      refine v_aload_n 0 dX4_acts_38 rfl rfl ?_
      refine v_getR lk_X4_7 rfl (rfl : SH 110 = _) (mo_0 hLM) dX4_acts_39 ?_
      refine v_bipush dX4_acts_42 (by decide) ?_
      refine o_iald (j := 10) (u := v (10)) (rfl : SH 111 = _) (by omega) (by omega) (by simp [vup, hv]) dX4_acts_44 ?_
      refine v_iconst dX4_acts_45 ?_
      refine v_iand dX4_acts_46 ?_
      refine v_iconst dX4_acts_47 ?_
      have e2 := nu_cp2 hk.1.1 hk.1.2
      refine v_icmp_ne 58 dX4_acts_48 (by decide) (vand_R _ _) (by decide) (fun h48 => ?_) (fun h48 => ?_)
      · skip
        have hc : ¬ 2 ≤ v 10 := fun q => h48 (e2.mpr q)
        refine v_iconst dX4_acts_58 ?_
        refine v_ior dX4_acts_59 ?_
        refine v_ldc (16777215) kc_X4_106 (by decide) dX4_acts_60 ?_
        refine v_iand dX4_acts_62 ?_
        refine o_eqI (u := ((sAct0 v false : Nat) : Int)) (by first | with_reducible exact ac0_f1 hI hc | with_reducible exact ac0_f0 hI hc) ?_
        refine o_iast (j := 0) (by omega) (rfl : SH 120 = _) (by omega) (by omega) dX4_acts_63 ?_
        refine v_aload_n 0 dX4_acts_64 rfl rfl ?_
        refine v_getR lk_X4_38 rfl (rfl : SH 110 = _) (mo_11 hLM) dX4_acts_65 ?_
        refine v_iconst dX4_acts_68 ?_
        refine v_iload_n 3 dX4_acts_69 rfl rfl ?_
        refine v_aload_n 0 dX4_acts_70 rfl rfl ?_
        refine v_getR lk_X4_7 rfl (rfl : SH 110 = _) (mo_0 hLM) dX4_acts_71 ?_
        refine v_bipush dX4_acts_74 (by decide) ?_
        refine o_iald (j := 10) (u := v (10)) (rfl : SH 111 = _) (by omega) (by omega) (by simp [vup, hv]) dX4_acts_76 ?_
        refine v_iconst dX4_acts_77 ?_
        refine v_iand dX4_acts_78 ?_
        refine v_iconst dX4_acts_79 ?_
        have e1 := nu_cp1 hk.1.1 hk.1.2
        refine v_icmp_ne 92 dX4_acts_80 (by decide) (vand_R _ _) (by decide) (fun h80 => ?_) (fun h80 => ?_)
        · skip
          have hd : ¬ v 10 % 2 = 1 := fun q => h80 (e1.mpr q)
          refine v_iconst dX4_acts_92 ?_
          refine v_ior dX4_acts_93 ?_
          refine o_eqI (u := ((sAct1 v false : Nat) : Int)) (by first | with_reducible exact ac1_f1 hI hd | with_reducible exact ac1_f0 hI hd) ?_
          refine o_iast (j := 1) (by omega) (rfl : SH 120 = _) (by omega) (by omega) dX4_acts_94 ?_
          refine o_ret hQ hlk hrt dX4_acts_95 ?_
          exact ⟨rfl, fr_up (fr_up fr_rf (by decide) _ _) (by decide) _ _, fun m hm => by rcases (show m = 0 ∨ m = 1 by omega) with rfl | rfl <;> simp [vup, sAct]⟩
        · skip
          have hd := e1.mp h80
          refine v_aload_n 0 dX4_acts_83 rfl rfl ?_
          refine v_getR lk_X4_38 rfl (rfl : SH 110 = _) (mo_11 hLM) dX4_acts_84 ?_
          refine v_iconst dX4_acts_87 ?_
          refine o_iald (j := 0) (u := ((sAct0 v false : Nat) : Int)) (rfl : SH 120 = _) (by omega) (by omega) (by simp [vup]) dX4_acts_88 ?_
          refine v_goto 93 dX4_acts_89 (by decide) ?_
          refine v_ior dX4_acts_93 ?_
          refine o_eqI (u := ((sAct1 v false : Nat) : Int)) (by first | with_reducible exact ac1_f1 hI hd | with_reducible exact ac1_f0 hI hd) ?_
          refine o_iast (j := 1) (by omega) (rfl : SH 120 = _) (by omega) (by omega) dX4_acts_94 ?_
          refine o_ret hQ hlk hrt dX4_acts_95 ?_
          exact ⟨rfl, fr_up (fr_up fr_rf (by decide) _ _) (by decide) _ _, fun m hm => by rcases (show m = 0 ∨ m = 1 by omega) with rfl | rfl <;> simp [vup, sAct]⟩
      · skip
        have hc := e2.mp h48
        refine v_iload_n 2 dX4_acts_51 rfl rfl ?_
        refine v_bipush dX4_acts_52 (by decide) ?_
        refine v_ishl dX4_acts_54 ?_
        refine v_goto 59 dX4_acts_55 (by decide) ?_
        refine v_ior dX4_acts_59 ?_
        refine v_ldc (16777215) kc_X4_106 (by decide) dX4_acts_60 ?_
        refine v_iand dX4_acts_62 ?_
        refine o_eqI (u := ((sAct0 v false : Nat) : Int)) (by first | with_reducible exact ac0_f1 hI hc | with_reducible exact ac0_f0 hI hc) ?_
        refine o_iast (j := 0) (by omega) (rfl : SH 120 = _) (by omega) (by omega) dX4_acts_63 ?_
        refine v_aload_n 0 dX4_acts_64 rfl rfl ?_
        refine v_getR lk_X4_38 rfl (rfl : SH 110 = _) (mo_11 hLM) dX4_acts_65 ?_
        refine v_iconst dX4_acts_68 ?_
        refine v_iload_n 3 dX4_acts_69 rfl rfl ?_
        refine v_aload_n 0 dX4_acts_70 rfl rfl ?_
        refine v_getR lk_X4_7 rfl (rfl : SH 110 = _) (mo_0 hLM) dX4_acts_71 ?_
        refine v_bipush dX4_acts_74 (by decide) ?_
        refine o_iald (j := 10) (u := v (10)) (rfl : SH 111 = _) (by omega) (by omega) (by simp [vup, hv]) dX4_acts_76 ?_
        refine v_iconst dX4_acts_77 ?_
        refine v_iand dX4_acts_78 ?_
        refine v_iconst dX4_acts_79 ?_
        have e1 := nu_cp1 hk.1.1 hk.1.2
        refine v_icmp_ne 92 dX4_acts_80 (by decide) (vand_R _ _) (by decide) (fun h80 => ?_) (fun h80 => ?_)
        · skip
          have hd : ¬ v 10 % 2 = 1 := fun q => h80 (e1.mpr q)
          refine v_iconst dX4_acts_92 ?_
          refine v_ior dX4_acts_93 ?_
          refine o_eqI (u := ((sAct1 v false : Nat) : Int)) (by first | with_reducible exact ac1_f1 hI hd | with_reducible exact ac1_f0 hI hd) ?_
          refine o_iast (j := 1) (by omega) (rfl : SH 120 = _) (by omega) (by omega) dX4_acts_94 ?_
          refine o_ret hQ hlk hrt dX4_acts_95 ?_
          exact ⟨rfl, fr_up (fr_up fr_rf (by decide) _ _) (by decide) _ _, fun m hm => by rcases (show m = 0 ∨ m = 1 by omega) with rfl | rfl <;> simp [vup, sAct]⟩
        · skip
          have hd := e1.mp h80
          refine v_aload_n 0 dX4_acts_83 rfl rfl ?_
          refine v_getR lk_X4_38 rfl (rfl : SH 110 = _) (mo_11 hLM) dX4_acts_84 ?_
          refine v_iconst dX4_acts_87 ?_
          refine o_iald (j := 0) (u := ((sAct0 v false : Nat) : Int)) (rfl : SH 120 = _) (by omega) (by omega) (by simp [vup]) dX4_acts_88 ?_
          refine v_goto 93 dX4_acts_89 (by decide) ?_
          refine v_ior dX4_acts_93 ?_
          refine o_eqI (u := ((sAct1 v false : Nat) : Int)) (by first | with_reducible exact ac1_f1 hI hd | with_reducible exact ac1_f0 hI hd) ?_
          refine o_iast (j := 1) (by omega) (rfl : SH 120 = _) (by omega) (by omega) dX4_acts_94 ?_
          refine o_ret hQ hlk hrt dX4_acts_95 ?_
          exact ⟨rfl, fr_up (fr_up fr_rf (by decide) _ _) (by decide) _ _, fun m hm => by rcases (show m = 0 ∨ m = 1 by omega) with rfl | rfl <;> simp [vup, sAct]⟩
    · skip
      exact absurd h17 (by decide)
  · skip
    exact absurd h1 (by decide)
