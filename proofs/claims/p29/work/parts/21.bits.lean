/-! ===== bit counts ===== -/
theorem bu_1 {n : Nat} (h : n < 2147483648) : (n : Int) - vand (vushr (n : Int) 1) 1431655765 = ((bc1 1431655765 n : Nat) : Int) := by
  have e := nu_ushr (z := (n : Int)) (k := 1) (by omega) (by omega) (by decide)
  rw [Int.toNat_natCast] at e
  have hd : n / 2 ^ 1 ≤ n := Nat.div_le_self _ _
  rw [show (1 : Int) = ((1 : Nat) : Int) from rfl, e, nu_and (by omega) (by omega) (by decide) (by decide), Int.toNat_natCast]
  have hle : (n / 2 &&& 1431655765) ≤ n := Nat.le_trans Nat.and_le_left (Nat.div_le_self _ _)
  show (n : Int) - ((n / 2 &&& 1431655765 : Nat) : Int) = _
  unfold bc1
  omega
theorem bu_2 {n : Nat} (h : n < 1073741824) : vand (n : Int) 858993459 + vand (vushr (n : Int) 2) 858993459 = ((bc2 858993459 n : Nat) : Int) := by
  have e := nu_ushr (z := (n : Int)) (k := 2) (by omega) (by omega) (by decide)
  rw [Int.toNat_natCast] at e
  have hd : n / 2 ^ 2 ≤ n := Nat.div_le_self _ _
  rw [show (2 : Int) = ((2 : Nat) : Int) from rfl, e, nu_and (by omega) (by omega) (by decide) (by decide), nu_and (by omega) (by omega) (by decide) (by decide), Int.toNat_natCast, Int.toNat_natCast]
  rfl
theorem bu_3 {n : Nat} (h : n < 1073741824) : vand ((n : Int) + vushr (n : Int) 4) 252645135 = ((bc3 252645135 n : Nat) : Int) := by
  have e := nu_ushr (z := (n : Int)) (k := 4) (by omega) (by omega) (by decide)
  rw [Int.toNat_natCast] at e
  have hd : n / 2 ^ 4 ≤ n := Nat.div_le_self _ _
  rw [show (4 : Int) = ((4 : Nat) : Int) from rfl, e, nu_and (by omega) (by omega) (by decide) (by decide)]
  have e3 : ((n : Int) + ((n / 2 ^ 4 : Nat) : Int)).toNat = n + n / 16 := by
    show ((n : Int) + ((n / 16 : Nat) : Int)).toNat = _
    omega
  rw [e3]
  rfl
theorem bu_4 {n : Nat} (h : n < 1073741824) : (n : Int) + vushr (n : Int) 8 = ((n + n / 256 : Nat) : Int) := by
  have e := nu_ushr (z := (n : Int)) (k := 8) (by omega) (by omega) (by decide)
  rw [Int.toNat_natCast] at e
  rw [show (8 : Int) = ((8 : Nat) : Int) from rfl, e]
  rfl
theorem bu_5 {n : Nat} (h : n < 1073741824) : (n : Int) + vushr (n : Int) 16 = ((n + n / 65536 : Nat) : Int) := by
  have e := nu_ushr (z := (n : Int)) (k := 16) (by omega) (by omega) (by decide)
  rw [Int.toNat_natCast] at e
  rw [show (16 : Int) = ((16 : Nat) : Int) from rfl, e]
  rfl
theorem bu_6 {n : Nat} (h : n < 1073741824) : vand (n : Int) 63 = ((n &&& 63 : Nat) : Int) := by
  rw [nu_and (by omega) (by omega) (by decide) (by decide), Int.toNat_natCast]
  rfl
theorem bc1_le (m z : Nat) : bc1 m z ≤ z := Nat.sub_le _ _
theorem bc2_le (m z : Nat) : bc2 m z ≤ z + z / 4 := Nat.add_le_add Nat.and_le_left Nat.and_le_left
theorem bc3_le (m z : Nat) : bc3 m z ≤ z + z / 16 := Nat.and_le_left
theorem pc_n0 {z : Nat} (h : z < 16777216) (h0 : 0 < z) : 0 < pc z := by
  have := pcf_step 24 z h0 h
  unfold pc
  omega
set_option maxRecDepth 100000 in
set_option maxHeartbeats 400000 in
theorem c_J6_bitCount {l : Launch} {G : vGG} {M : Mem} {z : Nat} (hz : z < 16777216) : Cv l yJ6_bitCount_0f7a4 cJ6_bitCount_0f7a4 1 (some .int) (rmo 0 0) G [aI (z : Int)] M (some (aI ((pc z : Nat) : Int))) M := by
  refine Co.ofV (by decide +kernel) rfl rfl ?_
  intro x hxl hxR hlk hrt Q hQ
  have l1 : bc1 1431655765 z ≤ z := bc1_le _ _
  have l2 := bc2_le 858993459 (bc1 1431655765 z)
  have l3 := bc3_le 252645135 (bc2 858993459 (bc1 1431655765 z))
  show vO x Q G cJ6_bitCount_0f7a4 RJ6 0 [some (aI (z : Int))] [] M
  refine v_iload_n 0 dJ6_bitCount_0f7a4_0 rfl rfl ?_
  refine v_iload_n 0 dJ6_bitCount_0f7a4_1 rfl rfl ?_
  refine v_iconst dJ6_bitCount_0f7a4_2 ?_
  refine v_iushr dJ6_bitCount_0f7a4_3 ?_
  refine v_ldcw (1431655765) kc_J6_265 (by decide) dJ6_bitCount_0f7a4_4 ?_
  refine v_iand dJ6_bitCount_0f7a4_7 ?_
  refine v_isub dJ6_bitCount_0f7a4_8 ?_
  refine o_eqI (bu_1 (by omega)) ?_
  refine v_ist0 dJ6_bitCount_0f7a4_9 ?_
  refine v_iload_n 0 dJ6_bitCount_0f7a4_10 rfl rfl ?_
  refine v_ldcw (858993459) kc_J6_266 (by decide) dJ6_bitCount_0f7a4_11 ?_
  refine v_iand dJ6_bitCount_0f7a4_14 ?_
  refine v_iload_n 0 dJ6_bitCount_0f7a4_15 rfl rfl ?_
  refine v_iconst dJ6_bitCount_0f7a4_16 ?_
  refine v_iushr dJ6_bitCount_0f7a4_17 ?_
  refine v_ldcw (858993459) kc_J6_266 (by decide) dJ6_bitCount_0f7a4_18 ?_
  refine v_iand dJ6_bitCount_0f7a4_21 ?_
  refine v_iadd dJ6_bitCount_0f7a4_22 ?_
  refine o_eqI (bu_2 (by omega)) ?_
  refine v_ist0 dJ6_bitCount_0f7a4_23 ?_
  refine v_iload_n 0 dJ6_bitCount_0f7a4_24 rfl rfl ?_
  refine v_iload_n 0 dJ6_bitCount_0f7a4_25 rfl rfl ?_
  refine v_iconst dJ6_bitCount_0f7a4_26 ?_
  refine v_iushr dJ6_bitCount_0f7a4_27 ?_
  refine v_iadd dJ6_bitCount_0f7a4_28 ?_
  refine v_ldcw (252645135) kc_J6_267 (by decide) dJ6_bitCount_0f7a4_29 ?_
  refine v_iand dJ6_bitCount_0f7a4_32 ?_
  refine o_eqI (bu_3 (by omega)) ?_
  refine v_ist0 dJ6_bitCount_0f7a4_33 ?_
  refine v_iload_n 0 dJ6_bitCount_0f7a4_34 rfl rfl ?_
  refine v_iload_n 0 dJ6_bitCount_0f7a4_35 rfl rfl ?_
  refine v_bipush dJ6_bitCount_0f7a4_36 (by decide) ?_
  refine v_iushr dJ6_bitCount_0f7a4_38 ?_
  refine v_iadd dJ6_bitCount_0f7a4_39 ?_
  refine o_eqI (bu_4 (by omega)) ?_
  refine v_ist0 dJ6_bitCount_0f7a4_40 ?_
  refine v_iload_n 0 dJ6_bitCount_0f7a4_41 rfl rfl ?_
  refine v_iload_n 0 dJ6_bitCount_0f7a4_42 rfl rfl ?_
  refine v_bipush dJ6_bitCount_0f7a4_43 (by decide) ?_
  refine v_iushr dJ6_bitCount_0f7a4_45 ?_
  refine v_iadd dJ6_bitCount_0f7a4_46 ?_
  refine o_eqI (bu_5 (by omega)) ?_
  refine v_ist0 dJ6_bitCount_0f7a4_47 ?_
  refine v_iload_n 0 dJ6_bitCount_0f7a4_48 rfl rfl ?_
  refine v_bipush dJ6_bitCount_0f7a4_49 (by decide) ?_
  refine v_iand dJ6_bitCount_0f7a4_51 ?_
  refine o_eqI (bu_6 (by omega)) ?_
  refine o_iret hQ hlk hrt dJ6_bitCount_0f7a4_52 ?_
  exact ⟨by rw [← bc_end hz _ rfl], rfl⟩
