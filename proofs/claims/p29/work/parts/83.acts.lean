/-! ===== the law's acts (by program) ===== -/
theorem tm_b (a : Nat) {z : Int} (hz : 1 ≤ z) : 0 ≤ (a : Int).tmod z ∧ (a : Int).tmod z < z := by
  rw [Int.tmod_eq_emod_of_nonneg (by omega)]
  exact ⟨Int.emod_nonneg _ (by omega), Int.emod_lt_of_pos _ (by omega)⟩
section LWs
variable {v : Sg} {M K N : Mem}
theorem LW.set {k : Nat} {z : Int} (h : LW v M) (hk : k < 9) (hF : xfr (vup M.1 111 k z, M.2) N) : LW (sup v (1 + k) z) N := by
  obtain ⟨h1, h2, h3, h4⟩ := h
  have e : ∀ i, i ≠ 1 + k → sup v (1 + k) z i = v i := fun i hi => sup_ne _ _ hi
  unfold LW
  rw [(hF 110 (by decide) (by decide)).1, (hF 111 (by decide) (by decide)).1, (hF 112 (by decide) (by decide)).1, (hF 113 (by decide) (by decide)).1]
  dsimp only
  refine ⟨fun s hs => ?_, fun j hj => ?_, fun s hs => ?_, ?_⟩
  · rw [vup_o (by omega), vup_o (by omega), vup_o (by omega), e _ (by omega), e (24 + 5 * s + 1) (by omega), e (24 + 5 * s + 3) (by omega)]; exact h1 s hs
  · by_cases q : j = k
    · subst q; rw [vup_s, sup_eq]
    · rw [vup_o (by omega), e _ (by omega)]; exact h2 j hj
  · rw [vup_o (by omega), e _ (by omega)]; exact h3 s hs
  · rw [vup_o (by omega), vup_o (by omega), vup_o (by omega), e 10 (by omega), e 11 (by omega), e 12 (by omega)]; exact h4
theorem LW.lay {s0 : Nat} {b c d : Int} (h : LW v M) (hs0 : s0 < 8) (hK : K = (vup (vup (vup M.1 110 (5 * s0) b) 110 (5 * s0 + 1) c) 110 (5 * s0 + 2) d, M.2)) (hF : xfr K N) : LW (sLay v s0 b c d) N := by
  obtain ⟨h1, h2, h3, h4⟩ := h
  unfold LW
  rw [(hF 110 (by decide) (by decide)).1, (hF 111 (by decide) (by decide)).1, (hF 112 (by decide) (by decide)).1, (hF 113 (by decide) (by decide)).1, hK]
  dsimp only
  have e : ∀ i, i < 64 → i ≠ 24 + 5 * s0 → i ≠ 24 + 5 * s0 + 1 → i ≠ 24 + 5 * s0 + 2 → sLay v s0 b c d i = v i := fun i a1 a2 a3 a4 => by unfold sLay; rw [if_neg (by omega), if_neg a2, if_neg a3, if_neg a4]
  refine ⟨fun s hs => ?_, fun j hj => ?_, fun s hs => ?_, ?_⟩
  · by_cases q : s = s0
    · subst q
      rw [vup_o (by omega), vup_o (by omega), vup_s, vup_o (by omega), vup_s, vup_o (by omega), vup_o (by omega), vup_o (by omega), e (24 + 5 * s + 3) (by omega) (by omega) (by omega) (by omega)]
      refine ⟨?_, ?_, (h1 s hs).2.2⟩
      · unfold sLay; rw [if_neg (by omega), if_pos rfl]
      · unfold sLay; rw [if_neg (by omega), if_neg (by omega), if_pos rfl]
    · rw [vup_o (by omega), vup_o (by omega), vup_o (by omega), vup_o (by omega), vup_o (by omega), vup_o (by omega), vup_o (by omega), vup_o (by omega), vup_o (by omega), e _ (by omega) (by omega) (by omega) (by omega), e (24 + 5 * s + 1) (by omega) (by omega) (by omega) (by omega), e (24 + 5 * s + 3) (by omega) (by omega) (by omega) (by omega)]
      exact h1 s hs
  · rw [vup_o (by omega), vup_o (by omega), vup_o (by omega), e _ (by omega) (by omega) (by omega) (by omega)]; exact h2 j hj
  · rw [vup_o (by omega), vup_o (by omega), vup_o (by omega)]
    refine (h3 s hs).trans ?_
    unfold sLay; rw [if_neg (by omega), if_neg (by omega), if_neg (by omega), if_neg (by omega)]
  · rw [vup_o (by omega), vup_o (by omega), vup_o (by omega), vup_o (by omega), vup_o (by omega), vup_o (by omega), vup_o (by omega), vup_o (by omega), vup_o (by omega), e 10 (by omega) (by omega) (by omega) (by omega), e 11 (by omega) (by omega) (by omega) (by omega), e 12 (by omega) (by omega) (by omega) (by omega)]; exact h4
theorem sLay_o {s0 : Nat} {b c d : Int} {i : Nat} (hi : i < 24) : sLay v s0 b c d i = v i := by unfold sLay; rw [if_neg (by omega), if_neg (by omega), if_neg (by omega), if_neg (by omega)]
theorem LW.dra {s0 : Nat} {on : Int} (h : LW v M) (hs0 : s0 < 8) (ho : on = 0 ∨ on = 1) (hK : K = (vup M.1 110 (5 * s0 + 3) on, M.2)) (hF : xfr K N) : LW (sDra v s0 on) N := by
  obtain ⟨h1, h2, h3, h4⟩ := h
  have e : ∀ i, i ≠ 24 + 5 * s0 + 3 → sDra v s0 on i = v i := fun i hi => sup_ne _ _ hi
  have e0 : sDra v s0 on (24 + 5 * s0 + 3) = on := by
    unfold sDra
    rw [sup_eq]
    rcases ho with rfl | rfl <;> rfl
  unfold LW
  rw [(hF 110 (by decide) (by decide)).1, (hF 111 (by decide) (by decide)).1, (hF 112 (by decide) (by decide)).1, (hF 113 (by decide) (by decide)).1, hK]
  dsimp only
  refine ⟨fun s hs => ?_, fun j hj => ?_, fun s hs => ?_, ?_⟩
  · rw [vup_o (by omega), vup_o (by omega), e _ (by omega), e (24 + 5 * s + 1) (by omega)]
    refine ⟨(h1 s hs).1, (h1 s hs).2.1, ?_⟩
    by_cases q : s = s0
    · subst q; rw [vup_s, e0]
    · rw [vup_o (by omega), e (24 + 5 * s + 3) (by omega)]; exact (h1 s hs).2.2
  · rw [vup_o (by omega), e _ (by omega)]; exact h2 j hj
  · rw [vup_o (by omega), e _ (by omega)]; exact h3 s hs
  · rw [vup_o (by omega), vup_o (by omega), vup_o (by omega), e 10 (by omega), e 11 (by omega), e 12 (by omega)]; exact h4
theorem LW.cou {a c z : Int} (h : LW v M) (hz : z = bP (a ≠ 0) + 2 * bP (c ≠ 0)) (hK : K = (vup M.1 113 1 z, M.2)) (hF : xfr K N) : LW (sCou v a c) N := by
  obtain ⟨h1, h2, h3, h4⟩ := h
  have e : ∀ i, i ≠ 10 → sCou v a c i = v i := fun i hi => sup_ne _ _ hi
  unfold LW
  rw [(hF 110 (by decide) (by decide)).1, (hF 111 (by decide) (by decide)).1, (hF 112 (by decide) (by decide)).1, (hF 113 (by decide) (by decide)).1, hK]
  dsimp only
  refine ⟨fun s hs => ?_, fun j hj => ?_, fun s hs => ?_, ?_⟩
  · rw [vup_o (by omega), vup_o (by omega), vup_o (by omega), e _ (by omega), e (24 + 5 * s + 1) (by omega), e (24 + 5 * s + 3) (by omega)]; exact h1 s hs
  · rw [vup_o (by omega), e _ (by omega)]; exact h2 j hj
  · rw [vup_o (by omega), e _ (by omega)]; exact h3 s hs
  · rw [vup_s, vup_o (by omega), vup_o (by omega), e 11 (by omega), e 12 (by omega)]
    refine ⟨?_, h4.2⟩
    unfold sCou
    rw [sup_eq, hz]
theorem LW.cip {s0 k0 : Nat} {on : Int} (h : LW v M) (hs0 : s0 < 8) (hK : K = (vup M.1 112 s0 ((wth (v (256 + s0)).toNat k0 (decide (on ≠ 0)) : Nat) : Int), M.2)) (hF : xfr K N) : LW (sCip v s0 k0 on) N := by
  obtain ⟨h1, h2, h3, h4⟩ := h
  have e : ∀ i, i ≠ 256 + s0 → sCip v s0 k0 on i = v i := fun i hi => sup_ne _ _ hi
  unfold LW
  rw [(hF 110 (by decide) (by decide)).1, (hF 111 (by decide) (by decide)).1, (hF 112 (by decide) (by decide)).1, (hF 113 (by decide) (by decide)).1, hK]
  dsimp only
  refine ⟨fun s hs => ?_, fun j hj => ?_, fun s hs => ?_, ?_⟩
  · rw [vup_o (by omega), vup_o (by omega), vup_o (by omega), e _ (by omega), e (24 + 5 * s + 1) (by omega), e (24 + 5 * s + 3) (by omega)]; exact h1 s hs
  · rw [vup_o (by omega), e _ (by omega)]; exact h2 j hj
  · by_cases q : s = s0
    · subst q
      rw [vup_s]
      unfold sCip
      rw [sup_eq]
    · rw [vup_o (by omega), e _ (by omega)]; exact h3 s hs
  · rw [vup_o (by omega), vup_o (by omega), vup_o (by omega), e 10 (by omega), e 11 (by omega), e 12 (by omega)]; exact h4
theorem LW.pre {m k0 : Nat} {on : Int} (h : LW v M) (hm : m < 2) (hK : K = (vup M.1 113 (2 + m) ((wth (v (11 + m)).toNat k0 (decide (on ≠ 0)) : Nat) : Int), M.2)) (hF : xfr K N) : LW (sPre v m k0 on) N := by
  obtain ⟨h1, h2, h3, h4⟩ := h
  have e : ∀ i, i ≠ 11 + m → sPre v m k0 on i = v i := fun i hi => sup_ne _ _ hi
  have e0 : sPre v m k0 on (11 + m) = ((wth (v (11 + m)).toNat k0 (decide (on ≠ 0)) : Nat) : Int) := sup_eq _ _ _
  unfold LW
  rw [(hF 110 (by decide) (by decide)).1, (hF 111 (by decide) (by decide)).1, (hF 112 (by decide) (by decide)).1, (hF 113 (by decide) (by decide)).1, hK]
  dsimp only
  refine ⟨fun s hs => ?_, fun j hj => ?_, fun s hs => ?_, ?_⟩
  · rw [vup_o (by omega), vup_o (by omega), vup_o (by omega), e _ (by omega), e (24 + 5 * s + 1) (by omega), e (24 + 5 * s + 3) (by omega)]; exact h1 s hs
  · rw [vup_o (by omega), e _ (by omega)]; exact h2 j hj
  · rw [vup_o (by omega), e _ (by omega)]; exact h3 s hs
  · rcases (show m = 0 ∨ m = 1 by omega) with rfl | rfl
    · rw [vup_o (by omega), vup_s, vup_o (by omega), e 10 (by omega), e 12 (by omega)]
      exact ⟨h4.1, e0.symm, h4.2.2⟩
    · rw [vup_o (by omega), vup_o (by omega), vup_s, e 10 (by omega), e 11 (by omega)]
      exact ⟨h4.1, h4.2.1, e0.symm⟩
theorem LW.u {m : Nat} (h : LW v M) (hm : m < 2) : M.1 113 (2 + m) = v (11 + m) := by
  rcases (show m = 0 ∨ m = 1 by omega) with rfl | rfl
  · exact h.2.2.2.2.1
  · exact h.2.2.2.2.2
theorem LW.z {s : Nat} (h : LW v M) (hI : sInv v) (hs : s < 8) : M.1 112 s = (((v (256 + s)).toNat : Nat) : Int) := by
  have := (iv_st hI hs).2.2.2.2
  rw [h.2.2.1 s hs]
  omega
theorem cip_n {s k : Nat} (on : Int) (hs : s < 8) (hk : k < 24) : ∀ n, n ≤ 8 → sCi (sCip v s k on) n + (if s < n then (bt (v (256 + s)) k).toNat else 0) = sCi v n + (if s < n then (decide (on ≠ 0)).toNat else 0)
  | 0, _ => by simp [sCi]
  | n + 1, hn => by
    have ih := cip_n on hs hk n (by omega)
    rw [sCi, sCi]
    by_cases q : s = n
    · subst q
      rw [if_neg (by omega), if_neg (by omega)] at ih
      rw [if_pos (by omega), if_pos (by omega)]
      have hw := pc_wth (z := (v (256 + s)).toNat) (decide (on ≠ 0)) hk
      have e0 : sCip v s k on (256 + s) = ((wth (v (256 + s)).toNat k (decide (on ≠ 0)) : Nat) : Int) := sup_eq _ _ _
      rw [e0, Int.toNat_natCast]
      unfold bt
      omega
    · have e0 : sCip v s k on (256 + n) = v (256 + n) := sup_ne _ _ (by omega)
      rw [e0]
      by_cases q2 : s < n
      · rw [if_pos q2, if_pos q2] at ih
        rw [if_pos (by omega), if_pos (by omega)]
        omega
      · rw [if_neg q2, if_neg q2] at ih
        rw [if_neg (by omega), if_neg (by omega)]
        omega
theorem cip_8 {s k : Nat} {on d : Int} (hs : s < 8) (hk : k < 24) (h : d = ((decide (on ≠ 0)).toNat : Int) - ((bt (v (256 + s)) k).toNat : Int)) : ((sCi (sCip v s k on) 8 : Nat) : Int) = ((sCi v 8 : Nat) : Int) + d := by
  have := cip_n (v := v) on hs hk 8 (Nat.le_refl _)
  rw [if_pos hs, if_pos hs] at this
  omega
theorem cip_cases {on : Int} {b : Bool} {c : Nat} (ho : on = 0 ∨ on = 1) : (on = 1 ∧ b = false ∧ c = 6) ∨ (on = 1 ∧ b = false ∧ c ≠ 6) ∨ (on = 1 ∧ b = true) ∨ (on = 0 ∧ b = false) ∨ (on = 0 ∧ b = true) := by
  rcases ho with h | h
  · cases b
    · exact .inr (.inr (.inr (.inl ⟨h, rfl⟩)))
    · exact .inr (.inr (.inr (.inr ⟨h, rfl⟩)))
  · cases b
    · by_cases q : c = 6
      · exact .inl ⟨h, rfl, q⟩
      · exact .inr (.inl ⟨h, rfl, q⟩)
    · exact .inr (.inr (.inl ⟨h, rfl⟩))
end LWs
theorem cou_z (xx : Nat) : ((xx % 4 : Nat) : Int) = bP (bP (((xx % 2 : Nat) : Int) = 1) ≠ 0) + 2 * bP (bP (1 < ((xx % 4 : Nat) : Int)) ≠ 0) := by
  have e : ∀ (p : Prop) [Decidable p], bP (bP p ≠ 0) = bP p := fun p _ => bP_congr bP_n0
  rw [e, e]
  by_cases h1 : ((xx % 2 : Nat) : Int) = 1 <;> by_cases h2 : 1 < ((xx % 4 : Nat) : Int)
  · rw [bP_t h1, bP_t h2]; omega
  · rw [bP_t h1, bP_f h2]; omega
  · rw [bP_f h1, bP_t h2]; omega
  · rw [bP_f h1, bP_f h2]; omega
set_option maxRecDepth 100000 in
set_option maxHeartbeats 4000000 in
theorem c_L_acts {l : Launch} {G : vGG} {M : Mem} {v : Sg} {r : Nat} {h : Nat → Nat} {ro : Nat → Sg} {ke : Nat → Int} {kr : Nat → Sg} {t : Nat} {L : Nat → Int} (hJ : JX v r h ro ke kr t L M) (hW : LW v M) {y : Nat} (hy : y ≤ 2147483647) : Co l yL_acts cL_acts 19 (some .boolean) (rmo 5 108) G [aR (some 0), aR (some 110), aR (some 111), aR (some 112), aR (some 113), aI (y : Int)] M (fun r0 N => r0 = some (aI 1) ∧ aPost v N) := by
  refine Co.ofV (plainFor_of_name (by decide)) rfl rfl ?_
  intro x hxl hxR hlk hrt Q hQ
  obtain ⟨xx, hxx⟩ : ∃ xx : Nat, xx = y / 8 := ⟨_, rfl⟩
  obtain ⟨ss, hsse⟩ : ∃ ss : Nat, ss = xx % 8 := ⟨_, rfl⟩
  obtain ⟨key, hkeye⟩ : ∃ key : Nat, key = xx / 8 % 24 := ⟨_, rfl⟩
  have hss : ss < 8 := by omega
  have hkey : key < 24 := by omega
  have hzb := (iv_st hJ.inv hss).2.2.2.2
  show vO x Q G cL_acts RL 0 [some (aR (some 0)), some (aR (some 110)), some (aR (some 111)), some (aR (some 112)), some (aR (some 113)), some (aI (y : Int)), none, none, none, none, none, none, none, none, none, none, none, none, none] [] M
  refine v_iload dL_acts_0 rfl ?_
  refine v_iconst dL_acts_2 ?_
  refine v_ishr dL_acts_3 ?_
  refine o_eqI (u := ((xx : Nat) : Int)) (by rw [hxx]; exact nu_shrN y 3 hy (by decide)) ?_
  refine v_ist6 dL_acts_4 rfl ?_
  refine v_iload dL_acts_6 rfl ?_
  refine v_bipush dL_acts_8 (by decide) ?_
  refine v_irem dL_acts_10 (by omega) (by decide) (by omega) ?_
  refine o_eqI (u := ((xx % 8 : Nat) : Int)) (md_n xx 8) ?_
  refine o_eqI (u := ((ss : Nat) : Int)) (by omega) ?_
  refine v_ist7 dL_acts_11 rfl ?_
  refine v_iload dL_acts_13 rfl ?_
  refine v_iconst dL_acts_15 ?_
  refine v_ishr dL_acts_16 ?_
  refine o_eqI (u := ((xx / 8 : Nat) : Int)) (nu_shrN xx 3 (by omega) (by decide)) ?_
  refine v_bipush dL_acts_17 (by decide) ?_
  refine v_irem dL_acts_19 (by omega) (by decide) (by omega) ?_
  refine o_eqI (u := (((xx / 8) % 24 : Nat) : Int)) (md_n (xx / 8) 24) ?_
  refine o_eqI (u := ((key : Nat) : Int)) (by omega) ?_
  refine v_ist8 dL_acts_20 rfl ?_
  refine v_iload dL_acts_22 rfl ?_
  refine v_bipush dL_acts_24 (by decide) ?_
  refine v_iand dL_acts_26 ?_
  refine o_eqI (u := ((y % 8 : Nat) : Int)) (nu_and7 y hy) ?_
  rcases (show y % 8 = 0 ∨ y % 8 = 1 ∨ y % 8 = 2 ∨ y % 8 = 3 ∨ y % 8 = 4 ∨ y % 8 = 5 ∨ 6 ≤ y % 8 by omega) with e8 | e8 | e8 | e8 | e8 | e8 | e8
  · skip
    refine o_eqI (u := 0) (by omega) ?_
    refine v_tableIn 64 dL_acts_27 (by decide) (by decide) (by decide) rfl (by decide) ?_
    refine v_iload dL_acts_64 rfl ?_
    refine v_bipush dL_acts_66 (by decide) ?_
    refine v_irem dL_acts_68 (by omega) (by decide) (by omega) ?_
    refine o_eqI (u := ((xx % 9 : Nat) : Int)) (md_n xx 9) ?_
    obtain ⟨k9, hk9e⟩ : ∃ k9 : Nat, k9 = xx % 9 := ⟨_, rfl⟩
    have hk9 : k9 < 9 := by omega
    have hlo := low_lt hk9
    refine o_eqI (u := ((k9 : Nat) : Int)) (by omega) ?_
    refine v_ist9 dL_acts_69 rfl ?_
    refine v_iload dL_acts_71 rfl ?_
    refine oSv1 (c_L_low hk9) k0_L_low ki_L_low ml_L_18 (vRo_of hxR (by decide) (by decide)) dL_acts_73 (Nat.le_of_ble_eq_true rfl) ?_
    refine v_iload dL_acts_76 rfl ?_
    refine v_iconst dL_acts_78 ?_
    refine v_ishr dL_acts_79 ?_
    refine o_eqI (u := ((xx / 16 : Nat) : Int)) (nu_shrN xx 4 (by omega) (by decide)) ?_
    refine v_iload dL_acts_80 rfl ?_
    refine v_iconst dL_acts_82 ?_
    have jn111 : ∀ z : Int, (1 ≤ z ∧ z ≤ 20001 ∧ tLo k9 + z ≤ tHi k9 + 1) → vO x Q G cL_acts RL 111 [some (aR (some 0)), some (aR (some 110)), some (aR (some 111)), some (aR (some 112)), some (aR (some 113)), some (aI (y : Int)), some (aI (xx : Int)), some (aI (ss : Int)), some (aI (key : Int)), some (aI (k9 : Int)), none, none, none, none, none, none, none, none, none] [aI z, aI ((xx / 16 : Nat) : Int), aI (tLo k9)] M := by
      intro z hz
      refine v_irem dL_acts_111 (by omega) (by omega) (by omega) ?_
      refine v_iadd dL_acts_112 ?_
      obtain ⟨c9, hc9⟩ : ∃ c9 : Int, c9 = tLo k9 + ((xx / 16 : Nat) : Int).tmod z := ⟨_, rfl⟩
      refine o_eqI (u := c9) hc9.symm ?_
      have hc9b : tLo k9 ≤ c9 ∧ c9 ≤ tHi k9 := by
        have := tm_b (xx / 16) hz.1
        omega
      refine v_ist10 dL_acts_113 rfl ?_
      refine v_aload_n 2 dL_acts_115 rfl rfl ?_
      refine v_iload dL_acts_116 rfl ?_
      refine o_iald (j := k9) (u := v (1 + k9)) (rfl : SH 111 = _) (by omega) (by omega) (hW.2.1 k9 hk9) dL_acts_118 ?_
      refine v_ist11 dL_acts_119 rfl ?_
      refine v_aload_n 2 dL_acts_121 rfl rfl ?_
      refine v_iload dL_acts_122 rfl ?_
      refine v_iload dL_acts_124 rfl ?_
      refine o_iast (j := k9) (by omega) (rfl : SH 111 = _) (by omega) (by omega) dL_acts_126 ?_
      have hJ := hJ.m (mfr_up (M := M) (i := 111) (k := k9) (z := c9) (by decide))
      refine v_aload_n 0 dL_acts_127 rfl rfl ?_
      refine v_iload dL_acts_128 rfl ?_
      refine v_iload dL_acts_130 rfl ?_
      refine oVq2 3 (q_set hJ (by omega) (by omega) ⟨by omega, by rw [Int.toNat_natCast]; exact hc9b⟩) k0_X3_set ki_X3_set ml_L_25 (rfl : SH 0 = _) (by decide) (vRo_of hxR (by decide) (by decide)) dL_acts_132 (Nat.le_of_ble_eq_true rfl) (fun N hN => ?_)
      rw [Int.toNat_natCast] at hN ⊢
      obtain ⟨hJ, hF⟩ := hN
      refine v_iload dL_acts_135 rfl ?_
      refine v_icmp_neS dL_acts_137 174 (by decide) rfl ?_
      refine v_aload_n 0 dL_acts_140 rfl rfl ?_
      refine v_iload dL_acts_141 rfl ?_
      refine v_iload dL_acts_143 rfl ?_
      refine oSv1 (c_L_high hk9) k0_L_high ki_L_high ml_L_22 (vRo_of hxR (by decide) (by decide)) dL_acts_145 (Nat.le_of_ble_eq_true rfl) ?_
      refine v_iconst dL_acts_148 ?_
      refine v_iadd dL_acts_149 ?_
      refine oVv2 3 (n_set hJ (by omega) (by omega) (fun g => by have := g.2.2; rw [Int.toNat_natCast] at this; omega)) k0_X3_set ki_X3_set ml_L_25 (rfl : SH 0 = _) (by decide) (vRo_of hxR (by decide) (by decide)) dL_acts_150 (Nat.le_of_ble_eq_true rfl) ?_
      refine v_ldc (-1000002) kc_L_31 (by decide) dL_acts_153 ?_
      refine v_icmp_neS dL_acts_155 174 (by decide) (by unfold eSet; rw [if_pos (by omega)]) ?_
      refine v_aload_n 0 dL_acts_158 rfl rfl ?_
      refine v_bipush dL_acts_159 (by decide) ?_
      refine v_iconst dL_acts_161 ?_
      refine oVv2 3 (n_set hJ (by decide) (by decide) (fun g => absurd g.1 (by decide))) k0_X3_set ki_X3_set ml_L_25 (rfl : SH 0 = _) (by decide) (vRo_of hxR (by decide) (by decide)) dL_acts_162 (Nat.le_of_ble_eq_true rfl) ?_
      refine v_ldc (-1000001) kc_L_32 (by decide) dL_acts_165 ?_
      refine v_icmp_neS dL_acts_167 174 (by decide) (by unfold eSet; rw [if_neg (by decide)]) ?_
      refine v_iconst dL_acts_170 ?_
      refine v_goto 175 dL_acts_171 (by decide) ?_
      refine o_zret hQ hlk hrt (.inr rfl) dL_acts_175 ?_
      exact ⟨rfl, _, _, _, _, _, _, _, _, hJ, hW.set hk9 hF, fun n hn => hn.chg hJ.inv (fun i hi => sup_ne _ _ (by omega))⟩
    refine v_icmp_eq 92 dL_acts_83 (by decide) (by omega) (by decide) (fun h83 => ?_) (fun h83 => ?_)
    · skip
      refine v_sipush dL_acts_92 (by decide) ?_
      refine v_goto 111 dL_acts_95 (by decide) ?_
      first | exact jn111 _ (by have e4 : k9 = 4 := (by omega); rw [e4]; decide) | exact jn111 _ (by have e4 : k9 = 5 := (by omega); rw [e4]; decide) | exact jn111 _ (by omega)
    · skip
      refine v_iload dL_acts_86 rfl ?_
      refine v_iconst dL_acts_88 ?_
      refine v_icmp_ne 98 dL_acts_89 (by decide) (by omega) (by decide) (fun h89 => ?_) (fun h89 => ?_)
      · skip
        refine v_iload dL_acts_98 rfl ?_
        refine oSv1 (c_L_high hk9) k0_L_high ki_L_high ml_L_22 (vRo_of hxR (by decide) (by decide)) dL_acts_100 (Nat.le_of_ble_eq_true rfl) ?_
        refine v_iload dL_acts_103 rfl ?_
        refine oSv1 (c_L_low hk9) k0_L_low ki_L_low ml_L_18 (vRo_of hxR (by decide) (by decide)) dL_acts_105 (Nat.le_of_ble_eq_true rfl) ?_
        refine v_isub dL_acts_108 ?_
        refine v_iconst dL_acts_109 ?_
        refine v_iadd dL_acts_110 ?_
        first | exact jn111 _ (by have e4 : k9 = 4 := (by omega); rw [e4]; decide) | exact jn111 _ (by have e4 : k9 = 5 := (by omega); rw [e4]; decide) | exact jn111 _ (by omega)
      · skip
        refine v_sipush dL_acts_92 (by decide) ?_
        refine v_goto 111 dL_acts_95 (by decide) ?_
        first | exact jn111 _ (by have e4 : k9 = 4 := (by omega); rw [e4]; decide) | exact jn111 _ (by have e4 : k9 = 5 := (by omega); rw [e4]; decide) | exact jn111 _ (by omega)
  · skip
    refine o_eqI (u := 1) (by omega) ?_
    refine v_tableIn 176 dL_acts_27 (by decide) (by decide) (by decide) rfl (by decide) ?_
    refine v_aload_n 1 dL_acts_176 rfl rfl ?_
    refine v_iconst dL_acts_177 ?_
    refine v_iload dL_acts_178 rfl ?_
    refine v_imul dL_acts_180 ?_
    refine v_iconst dL_acts_181 ?_
    refine v_iadd dL_acts_182 ?_
    refine o_iald (j := (5 * ss) + 1) (u := v (24 + 5 * ss + 1)) (rfl : SH 110 = _) (by omega) (by omega) (hW.1 ss hss).2.1 dL_acts_183 ?_
    refine v_ist12 dL_acts_184 rfl ?_
    refine v_aload_n 1 dL_acts_186 rfl rfl ?_
    refine v_iconst dL_acts_187 ?_
    refine v_iload dL_acts_188 rfl ?_
    refine v_imul dL_acts_190 ?_
    refine v_iload dL_acts_191 rfl ?_
    refine v_iconst dL_acts_193 ?_
    refine v_ishr dL_acts_194 ?_
    refine o_eqI (u := ((xx / 8 : Nat) : Int)) (nu_shrN xx 3 (by omega) (by decide)) ?_
    refine v_iconst dL_acts_195 ?_
    refine v_irem dL_acts_196 (by omega) (by decide) (by omega) ?_
    refine o_eqI (u := (((xx / 8) % 2 : Nat) : Int)) (md_n (xx / 8) 2) ?_
    obtain ⟨mm, hmm⟩ : ∃ mm : Nat, mm = xx / 8 % 2 := ⟨_, rfl⟩
    refine o_eqI (u := ((mm : Nat) : Int)) (by omega) ?_
    refine o_iast (j := 5 * ss) (by omega) (rfl : SH 110 = _) (by omega) (by omega) dL_acts_197 ?_
    refine v_aload_n 1 dL_acts_198 rfl rfl ?_
    refine v_iconst dL_acts_199 ?_
    refine v_iload dL_acts_200 rfl ?_
    refine v_imul dL_acts_202 ?_
    refine v_iconst dL_acts_203 ?_
    refine v_iadd dL_acts_204 ?_
    refine v_iconst dL_acts_205 ?_
    refine v_iload dL_acts_206 rfl ?_
    refine v_iconst dL_acts_208 ?_
    refine v_ishr dL_acts_209 ?_
    refine o_eqI (u := ((xx / 16 : Nat) : Int)) (nu_shrN xx 4 (by omega) (by decide)) ?_
    refine v_bipush dL_acts_210 (by decide) ?_
    refine v_irem dL_acts_212 (by omega) (by decide) (by omega) ?_
    refine o_eqI (u := (((xx / 16) % 40 : Nat) : Int)) (md_n (xx / 16) 40) ?_
    refine v_iadd dL_acts_213 ?_
    obtain ⟨dd0, hdd0⟩ : ∃ dd0 : Nat, dd0 = 1 + xx / 16 % 40 := ⟨_, rfl⟩
    refine o_eqI (u := ((dd0 : Nat) : Int)) (by omega) ?_
    refine o_iast (j := (5 * ss) + 1) (by omega) (rfl : SH 110 = _) (by omega) (by omega) dL_acts_214 ?_
    refine v_aload_n 1 dL_acts_215 rfl rfl ?_
    refine v_iconst dL_acts_216 ?_
    refine v_iload dL_acts_217 rfl ?_
    refine v_imul dL_acts_219 ?_
    refine v_iconst dL_acts_220 ?_
    refine v_iadd dL_acts_221 ?_
    refine v_iload dL_acts_222 rfl ?_
    refine v_bipush dL_acts_224 (by decide) ?_
    refine v_ishr dL_acts_226 ?_
    refine o_eqI (u := ((xx / 1024 : Nat) : Int)) (nu_shrN xx 10 (by omega) (by decide)) ?_
    refine v_iconst dL_acts_227 ?_
    refine v_irem dL_acts_228 (by omega) (by decide) (by omega) ?_
    refine o_eqI (u := (((xx / 1024) % 3 : Nat) : Int)) (md_n (xx / 1024) 3) ?_
    refine v_if_ne 244 dL_acts_229 (by decide) (by omega) (fun h229 => ?_) (fun h229 => ?_)
    · skip
      obtain ⟨ll, hll⟩ : ∃ ll : Nat, ll = xx / 4096 % 60 := ⟨_, rfl⟩
      refine v_iload dL_acts_244 rfl ?_
      refine v_bipush dL_acts_246 (by decide) ?_
      refine v_ishr dL_acts_248 ?_
      refine o_eqI (u := ((xx / 4096 : Nat) : Int)) (nu_shrN xx 12 (by omega) (by decide)) ?_
      refine v_bipush dL_acts_249 (by decide) ?_
      refine v_irem dL_acts_251 (by omega) (by decide) (by omega) ?_
      refine o_eqI (u := (((xx / 4096) % 60 : Nat) : Int)) (md_n (xx / 4096) 60) ?_
      refine o_eqI (u := ((ll : Nat) : Int)) (by omega) ?_
      refine o_iast (j := (5 * ss) + 2) (by omega) (rfl : SH 110 = _) (by omega) (by omega) dL_acts_252 ?_
      obtain ⟨K, hK⟩ : ∃ K : Mem, K = (vup (vup (vup M.1 110 (5 * ss) ((mm : Nat) : Int)) 110 (5 * ss + 1) ((dd0 : Nat) : Int)) 110 (5 * ss + 2) ((ll : Nat) : Int), M.2) := ⟨_, rfl⟩
      refine o_mem (M' := K) hK.symm ?_
      have hJ := hJ.m (show mfr M K by rw [hK]; exact mfr_tr (mfr_tr (mfr_up (by decide)) (mfr_up (M := (vup M.1 110 (5 * ss) ((mm : Nat) : Int), M.2)) (by decide))) (mfr_up (M := (vup (vup M.1 110 (5 * ss) ((mm : Nat) : Int)) 110 (5 * ss + 1) ((dd0 : Nat) : Int), M.2)) (by decide)))
      have hl : K.1 110 (5 * ss) = ((mm : Nat) : Int) ∧ K.1 110 (5 * ss + 1) = ((dd0 : Nat) : Int) ∧ K.1 110 (5 * ss + 2) = ((ll : Nat) : Int) := by
        rw [hK]
        dsimp only
        refine ⟨?_, ?_, ?_⟩
        · rw [vup_o (by omega), vup_o (by omega), vup_s]
        · rw [vup_o (by omega), vup_s]
        · rw [vup_s]
      refine v_aload_n 0 dL_acts_253 rfl rfl ?_
      refine v_iload dL_acts_254 rfl ?_
      refine v_aload_n 1 dL_acts_256 rfl rfl ?_
      refine v_iconst dL_acts_257 ?_
      refine v_iload dL_acts_258 rfl ?_
      refine v_imul dL_acts_260 ?_
      refine o_iald (j := 5 * ss) (u := ((mm : Nat) : Int)) (rfl : SH 110 = _) (by omega) (by omega) hl.1 dL_acts_261 ?_
      refine v_aload_n 1 dL_acts_262 rfl rfl ?_
      refine v_iconst dL_acts_263 ?_
      refine v_iload dL_acts_264 rfl ?_
      refine v_imul dL_acts_266 ?_
      refine v_iconst dL_acts_267 ?_
      refine v_iadd dL_acts_268 ?_
      refine o_iald (j := (5 * ss) + 1) (u := ((dd0 : Nat) : Int)) (rfl : SH 110 = _) (by omega) (by omega) hl.2.1 dL_acts_269 ?_
      refine v_aload_n 1 dL_acts_270 rfl rfl ?_
      refine v_iconst dL_acts_271 ?_
      refine v_iload dL_acts_272 rfl ?_
      refine v_imul dL_acts_274 ?_
      refine v_iconst dL_acts_275 ?_
      refine v_iadd dL_acts_276 ?_
      refine o_iald (j := (5 * ss) + 2) (u := ((ll : Nat) : Int)) (rfl : SH 110 = _) (by omega) (by omega) hl.2.2 dL_acts_277 ?_
      refine oVq4 3 (q_layOut hJ (by omega) (by omega) (by omega) (by omega) ⟨by omega, by omega, by omega, by omega⟩) k0_X3_layOut ki_X3_layOut ml_L_33 (rfl : SH 0 = _) (by decide) (vRo_of hxR (by decide) (by decide)) dL_acts_278 (Nat.le_of_ble_eq_true rfl) (fun N hN => ?_)
      rw [Int.toNat_natCast] at hN ⊢
      obtain ⟨hJ, hF⟩ := hN
      refine v_iload dL_acts_281 rfl ?_
      refine v_icmp_neS dL_acts_283 318 (by decide) rfl ?_
      refine v_aload_n 0 dL_acts_286 rfl rfl ?_
      refine v_iload dL_acts_287 rfl ?_
      refine v_iconst dL_acts_289 ?_
      refine v_iconst dL_acts_290 ?_
      refine v_iconst dL_acts_291 ?_
      refine oVv4 3 (n_layOut hJ (by omega) (by decide) (by decide) (by decide) (fun g => absurd g.2.1 (by decide))) k0_X3_layOut ki_X3_layOut ml_L_33 (rfl : SH 0 = _) (by decide) (vRo_of hxR (by decide) (by decide)) dL_acts_292 (Nat.le_of_ble_eq_true rfl) ?_
      refine v_ldc (-1000002) kc_L_31 (by decide) dL_acts_295 ?_
      refine v_icmp_neS dL_acts_297 318 (by decide) (by unfold eSt; rw [if_pos (by omega)]) ?_
      refine v_aload_n 0 dL_acts_300 rfl rfl ?_
      refine v_bipush dL_acts_301 (by decide) ?_
      refine v_iconst dL_acts_303 ?_
      refine v_iconst dL_acts_304 ?_
      refine v_iconst dL_acts_305 ?_
      refine oVv4 3 (n_layOut hJ (by decide) (by decide) (by decide) (by decide) (fun g => absurd g.1 (by decide))) k0_X3_layOut ki_X3_layOut ml_L_33 (rfl : SH 0 = _) (by decide) (vRo_of hxR (by decide) (by decide)) dL_acts_306 (Nat.le_of_ble_eq_true rfl) ?_
      refine v_ldc (-1000001) kc_L_32 (by decide) dL_acts_309 ?_
      refine v_icmp_neS dL_acts_311 318 (by decide) (by unfold eSt; rw [if_neg (by decide)]) ?_
      refine v_iconst dL_acts_314 ?_
      refine v_goto 319 dL_acts_315 (by decide) ?_
      refine o_zret hQ hlk hrt (.inr rfl) dL_acts_319 ?_
      exact ⟨rfl, _, _, _, _, _, _, _, _, hJ, hW.lay hss hK hF, fun n hn => hn.chg hJ.inv (fun i hi => sLay_o (by omega))⟩
    · skip
      obtain ⟨ll, hll⟩ : ∃ ll : Nat, ll = xx / 4096 % 201 := ⟨_, rfl⟩
      refine v_iload dL_acts_232 rfl ?_
      refine v_bipush dL_acts_234 (by decide) ?_
      refine v_ishr dL_acts_236 ?_
      refine o_eqI (u := ((xx / 4096 : Nat) : Int)) (nu_shrN xx 12 (by omega) (by decide)) ?_
      refine v_sipush dL_acts_237 (by decide) ?_
      refine v_irem dL_acts_240 (by omega) (by decide) (by omega) ?_
      refine o_eqI (u := (((xx / 4096) % 201 : Nat) : Int)) (md_n (xx / 4096) 201) ?_
      refine v_goto 252 dL_acts_241 (by decide) ?_
      refine o_eqI (u := ((ll : Nat) : Int)) (by omega) ?_
      refine o_iast (j := (5 * ss) + 2) (by omega) (rfl : SH 110 = _) (by omega) (by omega) dL_acts_252 ?_
      obtain ⟨K, hK⟩ : ∃ K : Mem, K = (vup (vup (vup M.1 110 (5 * ss) ((mm : Nat) : Int)) 110 (5 * ss + 1) ((dd0 : Nat) : Int)) 110 (5 * ss + 2) ((ll : Nat) : Int), M.2) := ⟨_, rfl⟩
      refine o_mem (M' := K) hK.symm ?_
      have hJ := hJ.m (show mfr M K by rw [hK]; exact mfr_tr (mfr_tr (mfr_up (by decide)) (mfr_up (M := (vup M.1 110 (5 * ss) ((mm : Nat) : Int), M.2)) (by decide))) (mfr_up (M := (vup (vup M.1 110 (5 * ss) ((mm : Nat) : Int)) 110 (5 * ss + 1) ((dd0 : Nat) : Int), M.2)) (by decide)))
      have hl : K.1 110 (5 * ss) = ((mm : Nat) : Int) ∧ K.1 110 (5 * ss + 1) = ((dd0 : Nat) : Int) ∧ K.1 110 (5 * ss + 2) = ((ll : Nat) : Int) := by
        rw [hK]
        dsimp only
        refine ⟨?_, ?_, ?_⟩
        · rw [vup_o (by omega), vup_o (by omega), vup_s]
        · rw [vup_o (by omega), vup_s]
        · rw [vup_s]
      refine v_aload_n 0 dL_acts_253 rfl rfl ?_
      refine v_iload dL_acts_254 rfl ?_
      refine v_aload_n 1 dL_acts_256 rfl rfl ?_
      refine v_iconst dL_acts_257 ?_
      refine v_iload dL_acts_258 rfl ?_
      refine v_imul dL_acts_260 ?_
      refine o_iald (j := 5 * ss) (u := ((mm : Nat) : Int)) (rfl : SH 110 = _) (by omega) (by omega) hl.1 dL_acts_261 ?_
      refine v_aload_n 1 dL_acts_262 rfl rfl ?_
      refine v_iconst dL_acts_263 ?_
      refine v_iload dL_acts_264 rfl ?_
      refine v_imul dL_acts_266 ?_
      refine v_iconst dL_acts_267 ?_
      refine v_iadd dL_acts_268 ?_
      refine o_iald (j := (5 * ss) + 1) (u := ((dd0 : Nat) : Int)) (rfl : SH 110 = _) (by omega) (by omega) hl.2.1 dL_acts_269 ?_
      refine v_aload_n 1 dL_acts_270 rfl rfl ?_
      refine v_iconst dL_acts_271 ?_
      refine v_iload dL_acts_272 rfl ?_
      refine v_imul dL_acts_274 ?_
      refine v_iconst dL_acts_275 ?_
      refine v_iadd dL_acts_276 ?_
      refine o_iald (j := (5 * ss) + 2) (u := ((ll : Nat) : Int)) (rfl : SH 110 = _) (by omega) (by omega) hl.2.2 dL_acts_277 ?_
      refine oVq4 3 (q_layOut hJ (by omega) (by omega) (by omega) (by omega) ⟨by omega, by omega, by omega, by omega⟩) k0_X3_layOut ki_X3_layOut ml_L_33 (rfl : SH 0 = _) (by decide) (vRo_of hxR (by decide) (by decide)) dL_acts_278 (Nat.le_of_ble_eq_true rfl) (fun N hN => ?_)
      rw [Int.toNat_natCast] at hN ⊢
      obtain ⟨hJ, hF⟩ := hN
      refine v_iload dL_acts_281 rfl ?_
      refine v_icmp_neS dL_acts_283 318 (by decide) rfl ?_
      refine v_aload_n 0 dL_acts_286 rfl rfl ?_
      refine v_iload dL_acts_287 rfl ?_
      refine v_iconst dL_acts_289 ?_
      refine v_iconst dL_acts_290 ?_
      refine v_iconst dL_acts_291 ?_
      refine oVv4 3 (n_layOut hJ (by omega) (by decide) (by decide) (by decide) (fun g => absurd g.2.1 (by decide))) k0_X3_layOut ki_X3_layOut ml_L_33 (rfl : SH 0 = _) (by decide) (vRo_of hxR (by decide) (by decide)) dL_acts_292 (Nat.le_of_ble_eq_true rfl) ?_
      refine v_ldc (-1000002) kc_L_31 (by decide) dL_acts_295 ?_
      refine v_icmp_neS dL_acts_297 318 (by decide) (by unfold eSt; rw [if_pos (by omega)]) ?_
      refine v_aload_n 0 dL_acts_300 rfl rfl ?_
      refine v_bipush dL_acts_301 (by decide) ?_
      refine v_iconst dL_acts_303 ?_
      refine v_iconst dL_acts_304 ?_
      refine v_iconst dL_acts_305 ?_
      refine oVv4 3 (n_layOut hJ (by decide) (by decide) (by decide) (by decide) (fun g => absurd g.1 (by decide))) k0_X3_layOut ki_X3_layOut ml_L_33 (rfl : SH 0 = _) (by decide) (vRo_of hxR (by decide) (by decide)) dL_acts_306 (Nat.le_of_ble_eq_true rfl) ?_
      refine v_ldc (-1000001) kc_L_32 (by decide) dL_acts_309 ?_
      refine v_icmp_neS dL_acts_311 318 (by decide) (by unfold eSt; rw [if_neg (by decide)]) ?_
      refine v_iconst dL_acts_314 ?_
      refine v_goto 319 dL_acts_315 (by decide) ?_
      refine o_zret hQ hlk hrt (.inr rfl) dL_acts_319 ?_
      exact ⟨rfl, _, _, _, _, _, _, _, _, hJ, hW.lay hss hK hF, fun n hn => hn.chg hJ.inv (fun i hi => sLay_o (by omega))⟩
  · skip
    refine o_eqI (u := 2) (by omega) ?_
    refine v_tableIn 320 dL_acts_27 (by decide) (by decide) (by decide) rfl (by decide) ?_
    refine v_aload_n 1 dL_acts_320 rfl rfl ?_
    refine v_iconst dL_acts_321 ?_
    refine v_iload dL_acts_322 rfl ?_
    refine v_imul dL_acts_324 ?_
    refine v_iconst dL_acts_325 ?_
    refine v_iadd dL_acts_326 ?_
    refine v_iload dL_acts_327 rfl ?_
    refine v_iconst dL_acts_329 ?_
    refine v_ishr dL_acts_330 ?_
    refine o_eqI (u := ((xx / 8 : Nat) : Int)) (nu_shrN xx 3 (by omega) (by decide)) ?_
    refine v_iconst dL_acts_331 ?_
    refine v_irem dL_acts_332 (by omega) (by decide) (by omega) ?_
    refine o_eqI (u := (((xx / 8) % 4 : Nat) : Int)) (md_n (xx / 8) 4) ?_
    refine v_mle dL_acts_333 dL_acts_336 dL_acts_337 dL_acts_340 (by omega) ?_
    obtain ⟨on, hon⟩ : ∃ on : Int, on = bP (0 < (((xx / 8) % 4 : Nat) : Int)) := ⟨_, rfl⟩
    have ho : on = 0 ∨ on = 1 := by
      rw [hon]
      exact bP_01 _
    refine o_eqI (u := on) hon.symm ?_
    refine o_iast (j := (5 * ss) + 3) (by omega) (rfl : SH 110 = _) (by omega) (by omega) dL_acts_341 ?_
    obtain ⟨K, hK⟩ : ∃ K : Mem, K = (vup M.1 110 (5 * ss + 3) on, M.2) := ⟨_, rfl⟩
    refine o_mem (M' := K) hK.symm ?_
    have hJ := hJ.m (show mfr M K by rw [hK]; exact mfr_up (by decide))
    have hl : K.1 110 (5 * ss + 3) = on := by
      rw [hK]
      exact vup_s _ _ _ _
    refine v_aload_n 0 dL_acts_342 rfl rfl ?_
    refine v_iload dL_acts_343 rfl ?_
    refine v_aload_n 1 dL_acts_345 rfl rfl ?_
    refine v_iconst dL_acts_346 ?_
    refine v_iload dL_acts_347 rfl ?_
    refine v_imul dL_acts_349 ?_
    refine v_iconst dL_acts_350 ?_
    refine v_iadd dL_acts_351 ?_
    refine o_iald (j := (5 * ss) + 3) (u := on) (rfl : SH 110 = _) (by omega) (by omega) hl dL_acts_352 ?_
    refine v_iconst dL_acts_353 ?_
    refine v_mne dL_acts_354 dL_acts_357 dL_acts_358 dL_acts_361 (by omega) (by decide) ?_
    refine o_eqI (u := on) (by rcases ho with q | q <;> rw [q] <;> rfl) ?_
    refine oVq2 3 (q_draw hJ (by omega) (by omega) (by omega)) k0_X3_draw ki_X3_draw ml_L_37 (rfl : SH 0 = _) (by decide) (vRo_of hxR (by decide) (by decide)) dL_acts_362 (Nat.le_of_ble_eq_true rfl) (fun N hN => ?_)
    rw [Int.toNat_natCast] at hN ⊢
    obtain ⟨hJ, hF⟩ := hN
    have hW2 := hW.dra hss ho hK hF
    refine v_aload_n 1 dL_acts_365 rfl rfl ?_
    refine oSv1 (c_L_drawn hJ.inv (fun s hs => (hW2.1 s hs).2.2)) k0_L_drawn ki_L_drawn ml_L_41 (vRo_of hxR (by decide) (by decide)) dL_acts_366 (Nat.le_of_ble_eq_true rfl) ?_
    refine oSv1 (c_L_bits (by have := sDrw_lt hJ.inv; omega)) k0_L_bits ki_L_bits ml_L_45 (vRo_of hxR (by decide) (by decide)) dL_acts_369 (Nat.le_of_ble_eq_true rfl) ?_
    refine v_icmp_neS dL_acts_372 390 (by decide) rfl ?_
    refine v_aload_n 0 dL_acts_375 rfl rfl ?_
    refine v_iconst dL_acts_376 ?_
    refine v_iconst dL_acts_377 ?_
    refine oVv2 3 (n_draw hJ (by decide) (by decide) (by decide)) k0_X3_draw ki_X3_draw ml_L_37 (rfl : SH 0 = _) (by decide) (vRo_of hxR (by decide) (by decide)) dL_acts_378 (Nat.le_of_ble_eq_true rfl) ?_
    refine v_ldc (-1000001) kc_L_32 (by decide) dL_acts_381 ?_
    refine v_icmp_neS dL_acts_383 390 (by decide) rfl ?_
    refine v_iconst dL_acts_386 ?_
    refine v_goto 391 dL_acts_387 (by decide) ?_
    refine o_zret hQ hlk hrt (.inr rfl) dL_acts_391 ?_
    exact ⟨rfl, _, _, _, _, _, _, _, _, hJ, hW2, fun n hn => hn.chg hJ.inv (fun i hi => sup_ne _ _ (by omega))⟩
  · skip
    refine o_eqI (u := 3) (by omega) ?_
    refine v_tableIn 320 dL_acts_27 (by decide) (by decide) (by decide) rfl (by decide) ?_
    refine v_aload_n 1 dL_acts_320 rfl rfl ?_
    refine v_iconst dL_acts_321 ?_
    refine v_iload dL_acts_322 rfl ?_
    refine v_imul dL_acts_324 ?_
    refine v_iconst dL_acts_325 ?_
    refine v_iadd dL_acts_326 ?_
    refine v_iload dL_acts_327 rfl ?_
    refine v_iconst dL_acts_329 ?_
    refine v_ishr dL_acts_330 ?_
    refine o_eqI (u := ((xx / 8 : Nat) : Int)) (nu_shrN xx 3 (by omega) (by decide)) ?_
    refine v_iconst dL_acts_331 ?_
    refine v_irem dL_acts_332 (by omega) (by decide) (by omega) ?_
    refine o_eqI (u := (((xx / 8) % 4 : Nat) : Int)) (md_n (xx / 8) 4) ?_
    refine v_mle dL_acts_333 dL_acts_336 dL_acts_337 dL_acts_340 (by omega) ?_
    obtain ⟨on, hon⟩ : ∃ on : Int, on = bP (0 < (((xx / 8) % 4 : Nat) : Int)) := ⟨_, rfl⟩
    have ho : on = 0 ∨ on = 1 := by
      rw [hon]
      exact bP_01 _
    refine o_eqI (u := on) hon.symm ?_
    refine o_iast (j := (5 * ss) + 3) (by omega) (rfl : SH 110 = _) (by omega) (by omega) dL_acts_341 ?_
    obtain ⟨K, hK⟩ : ∃ K : Mem, K = (vup M.1 110 (5 * ss + 3) on, M.2) := ⟨_, rfl⟩
    refine o_mem (M' := K) hK.symm ?_
    have hJ := hJ.m (show mfr M K by rw [hK]; exact mfr_up (by decide))
    have hl : K.1 110 (5 * ss + 3) = on := by
      rw [hK]
      exact vup_s _ _ _ _
    refine v_aload_n 0 dL_acts_342 rfl rfl ?_
    refine v_iload dL_acts_343 rfl ?_
    refine v_aload_n 1 dL_acts_345 rfl rfl ?_
    refine v_iconst dL_acts_346 ?_
    refine v_iload dL_acts_347 rfl ?_
    refine v_imul dL_acts_349 ?_
    refine v_iconst dL_acts_350 ?_
    refine v_iadd dL_acts_351 ?_
    refine o_iald (j := (5 * ss) + 3) (u := on) (rfl : SH 110 = _) (by omega) (by omega) hl dL_acts_352 ?_
    refine v_iconst dL_acts_353 ?_
    refine v_mne dL_acts_354 dL_acts_357 dL_acts_358 dL_acts_361 (by omega) (by decide) ?_
    refine o_eqI (u := on) (by rcases ho with q | q <;> rw [q] <;> rfl) ?_
    refine oVq2 3 (q_draw hJ (by omega) (by omega) (by omega)) k0_X3_draw ki_X3_draw ml_L_37 (rfl : SH 0 = _) (by decide) (vRo_of hxR (by decide) (by decide)) dL_acts_362 (Nat.le_of_ble_eq_true rfl) (fun N hN => ?_)
    rw [Int.toNat_natCast] at hN ⊢
    obtain ⟨hJ, hF⟩ := hN
    have hW2 := hW.dra hss ho hK hF
    refine v_aload_n 1 dL_acts_365 rfl rfl ?_
    refine oSv1 (c_L_drawn hJ.inv (fun s hs => (hW2.1 s hs).2.2)) k0_L_drawn ki_L_drawn ml_L_41 (vRo_of hxR (by decide) (by decide)) dL_acts_366 (Nat.le_of_ble_eq_true rfl) ?_
    refine oSv1 (c_L_bits (by have := sDrw_lt hJ.inv; omega)) k0_L_bits ki_L_bits ml_L_45 (vRo_of hxR (by decide) (by decide)) dL_acts_369 (Nat.le_of_ble_eq_true rfl) ?_
    refine v_icmp_neS dL_acts_372 390 (by decide) rfl ?_
    refine v_aload_n 0 dL_acts_375 rfl rfl ?_
    refine v_iconst dL_acts_376 ?_
    refine v_iconst dL_acts_377 ?_
    refine oVv2 3 (n_draw hJ (by decide) (by decide) (by decide)) k0_X3_draw ki_X3_draw ml_L_37 (rfl : SH 0 = _) (by decide) (vRo_of hxR (by decide) (by decide)) dL_acts_378 (Nat.le_of_ble_eq_true rfl) ?_
    refine v_ldc (-1000001) kc_L_32 (by decide) dL_acts_381 ?_
    refine v_icmp_neS dL_acts_383 390 (by decide) rfl ?_
    refine v_iconst dL_acts_386 ?_
    refine v_goto 391 dL_acts_387 (by decide) ?_
    refine o_zret hQ hlk hrt (.inr rfl) dL_acts_391 ?_
    exact ⟨rfl, _, _, _, _, _, _, _, _, hJ, hW2, fun n hn => hn.chg hJ.inv (fun i hi => sup_ne _ _ (by omega))⟩
  · skip
    refine o_eqI (u := 4) (by omega) ?_
    refine v_tableIn 392 dL_acts_27 (by decide) (by decide) (by decide) rfl (by decide) ?_
    refine v_aload dL_acts_392 rfl ?_
    refine v_iconst dL_acts_394 ?_
    refine o_iald (j := 1) (u := v 10) (rfl : SH 113 = _) (by omega) (by omega) hW.2.2.2.1 dL_acts_395 ?_
    refine v_ist13 dL_acts_396 rfl ?_
    refine v_aload dL_acts_398 rfl ?_
    refine v_iconst dL_acts_400 ?_
    refine v_iload dL_acts_401 rfl ?_
    refine v_iconst dL_acts_403 ?_
    refine v_irem dL_acts_404 (by omega) (by decide) (by omega) ?_
    refine o_eqI (u := ((xx % 4 : Nat) : Int)) (md_n xx 4) ?_
    refine o_iast (j := 1) (by omega) (rfl : SH 113 = _) (by omega) (by omega) dL_acts_405 ?_
    obtain ⟨K, hK⟩ : ∃ K : Mem, K = (vup M.1 113 1 ((xx % 4 : Nat) : Int), M.2) := ⟨_, rfl⟩
    refine o_mem (M' := K) hK.symm ?_
    have hJ := hJ.m (show mfr M K by rw [hK]; exact mfr_up (by decide))
    refine v_aload_n 0 dL_acts_406 rfl rfl ?_
    refine v_iload dL_acts_407 rfl ?_
    refine v_iconst dL_acts_409 ?_
    refine v_irem dL_acts_410 (by omega) (by decide) (by omega) ?_
    refine o_eqI (u := ((xx % 2 : Nat) : Int)) (md_n xx 2) ?_
    refine v_iconst dL_acts_411 ?_
    refine v_mne dL_acts_412 dL_acts_415 dL_acts_416 dL_acts_419 (by omega) (by decide) ?_
    skip
    refine v_iload dL_acts_420 rfl ?_
    refine v_iconst dL_acts_422 ?_
    refine v_irem dL_acts_423 (by omega) (by decide) (by omega) ?_
    refine o_eqI (u := ((xx % 4 : Nat) : Int)) (md_n xx 4) ?_
    refine v_iconst dL_acts_424 ?_
    refine v_mcle dL_acts_425 dL_acts_428 dL_acts_429 dL_acts_432 (by omega) (by decide) ?_
    skip
    refine oVq2 3 (q_couple hJ (bP_01 _) (bP_01 _) trivial) k0_X3_couple ki_X3_couple ml_L_48 (rfl : SH 0 = _) (by decide) (vRo_of hxR (by decide) (by decide)) dL_acts_433 (Nat.le_of_ble_eq_true rfl) (fun N hN => ?_)
    obtain ⟨hJ, hF⟩ := hN
    refine v_iload dL_acts_436 rfl ?_
    refine v_icmp_neS dL_acts_438 445 (by decide) rfl ?_
    refine v_iconst dL_acts_441 ?_
    refine v_goto 446 dL_acts_442 (by decide) ?_
    refine o_zret hQ hlk hrt (.inr rfl) dL_acts_446 ?_
    exact ⟨rfl, _, _, _, _, _, _, _, _, hJ, hW.cou (cou_z xx) hK hF, fun n hn => hn.chg hJ.inv (fun i hi => sup_ne _ _ (by omega))⟩
  · skip
    refine o_eqI (u := 5) (by omega) ?_
    refine v_tableIn 447 dL_acts_27 (by decide) (by decide) (by decide) rfl (by decide) ?_
    refine v_aload_n 3 dL_acts_447 rfl rfl ?_
    refine v_iload dL_acts_448 rfl ?_
    refine o_iald (j := ss) (u := v (256 + ss)) (rfl : SH 112 = _) (by omega) (by omega) (hW.2.2.1 ss hss) dL_acts_450 ?_
    refine v_iload dL_acts_451 rfl ?_
    refine v_ishr dL_acts_453 ?_
    refine v_iconst dL_acts_454 ?_
    refine v_iand dL_acts_455 ?_
    refine o_eqI (u := bP (bt (v (256 + ss)) key = true)) (nu_bit (by omega) (by omega) (by omega)) ?_
    refine v_iconst dL_acts_456 ?_
    refine v_mne dL_acts_457 dL_acts_460 dL_acts_461 dL_acts_464 (bP_R _) (by decide) ?_
    refine o_eqI (u := bP (bt (v (256 + ss)) key = true)) (bP_congr bP_1) ?_
    refine v_ist14 dL_acts_465 rfl ?_
    refine v_iload dL_acts_467 rfl ?_
    refine v_bipush dL_acts_469 (by decide) ?_
    refine v_ishr dL_acts_471 ?_
    refine o_eqI (u := ((xx / 256 : Nat) : Int)) (nu_shrN xx 8 (by omega) (by decide)) ?_
    refine v_iconst dL_acts_472 ?_
    refine v_irem dL_acts_473 (by omega) (by decide) (by omega) ?_
    refine o_eqI (u := (((xx / 256) % 3 : Nat) : Int)) (md_n (xx / 256) 3) ?_
    refine v_mle dL_acts_474 dL_acts_477 dL_acts_478 dL_acts_481 (by omega) ?_
    obtain ⟨on, hon⟩ : ∃ on : Int, on = bP (0 < (((xx / 256) % 3 : Nat) : Int)) := ⟨_, rfl⟩
    have ho : on = 0 ∨ on = 1 := by
      rw [hon]
      exact bP_01 _
    refine o_eqI (u := on) hon.symm ?_
    refine v_ist15 dL_acts_482 rfl ?_
    refine v_iconst dL_acts_484 ?_
    refine v_ist16 dL_acts_485 rfl ?_
    refine v_iconst dL_acts_487 ?_
    refine v_ist17 dL_acts_488 rfl ?_
    have lp490 : ∀ (dd i : Nat), i + dd = 8 → vO x Q G cL_acts RL 490 [some (aR (some 0)), some (aR (some 110)), some (aR (some 111)), some (aR (some 112)), some (aR (some 113)), some (aI (y : Int)), some (aI (xx : Int)), some (aI (ss : Int)), some (aI (key : Int)), none, none, none, none, none, some (aI (bP (bt (v (256 + ss)) key = true))), some (aI on), some (aI ((sCi v i : Nat) : Int)), some (aI (i : Int)), none] [] M := by
      intro dd
      induction dd with
      | zero =>
        intro i hd
        obtain rfl : i = 8 := by omega
        refine v_iload dL_acts_490 rfl ?_
        refine v_bipush dL_acts_492 (by decide) ?_
        refine v_icmp_ge 515 dL_acts_494 (by decide) (by omega) (by decide) (fun h494 => ?_) (fun h494 => ?_)
        · skip
          rcases cip_cases (b := bt (v (256 + ss)) key) (c := sCi v 8) ho with ⟨e1, e2, e3⟩ | ⟨e1, e2, e3⟩ | ⟨e1, e2⟩ | ⟨e1, e2⟩ | ⟨e1, e2⟩
          · skip
            have hb0 : bP (bt (v (256 + ss)) key = true) = 0 := by
              rw [e2]
              rfl
            rw [hb0, e1]
            refine v_iload dL_acts_515 rfl ?_
            refine v_if_eq 552 dL_acts_517 (by decide) (by decide) (fun h517 => ?_) (fun h517 => ?_)
            · skip
              exact absurd h517 (by decide)
            · skip
              refine v_iload dL_acts_520 rfl ?_
              refine v_if_ne 552 dL_acts_522 (by decide) (by decide) (fun h522 => ?_) (fun h522 => ?_)
              · skip
                exact absurd h522 (by decide)
              · skip
                refine v_iload dL_acts_525 rfl ?_
                refine v_bipush dL_acts_527 (by decide) ?_
                refine v_icmp_ne 552 dL_acts_529 (by decide) (by have := iv_ci hJ.inv; omega) (by decide) (fun h529 => ?_) (fun h529 => ?_)
                · skip
                  exact absurd (show ((sCi v 8 : Nat) : Int) = 6 by omega) h529
                · skip
                  refine v_aload_n 0 dL_acts_532 rfl rfl ?_
                  refine v_iload dL_acts_533 rfl ?_
                  refine v_iload dL_acts_535 rfl ?_
                  refine v_iconst dL_acts_537 ?_
                  refine oVv3 3 (n_cipher hJ (by omega) (by omega) (by decide) (fun g => g.2 ⟨by decide, by rw [Int.toNat_natCast, Int.toNat_natCast]; exact e2, e3⟩)) k0_X3_cipher ki_X3_cipher ml_L_52 (rfl : SH 0 = _) (by decide) (vRo_of hxR (by decide) (by decide)) dL_acts_538 (Nat.le_of_ble_eq_true rfl) ?_
                  refine v_ldc (-1000004) kc_L_56 (by decide) dL_acts_541 ?_
                  refine v_icmp_neS dL_acts_543 550 (by decide) (by unfold eSK; rw [if_pos ⟨by omega, by omega⟩]) ?_
                  refine v_iconst dL_acts_546 ?_
                  refine v_goto 551 dL_acts_547 (by decide) ?_
                  refine o_zret hQ hlk hrt (.inr rfl) dL_acts_551 ?_
                  exact ⟨rfl, _, _, _, _, _, _, _, _, hJ, hW, fun n hn => hn⟩
          · skip
            have hb0 : bP (bt (v (256 + ss)) key = true) = 0 := by
              rw [e2]
              rfl
            rw [hb0, e1]
            refine v_iload dL_acts_515 rfl ?_
            refine v_if_eq 552 dL_acts_517 (by decide) (by decide) (fun h517 => ?_) (fun h517 => ?_)
            · skip
              exact absurd h517 (by decide)
            · skip
              refine v_iload dL_acts_520 rfl ?_
              refine v_if_ne 552 dL_acts_522 (by decide) (by decide) (fun h522 => ?_) (fun h522 => ?_)
              · skip
                exact absurd h522 (by decide)
              · skip
                refine v_iload dL_acts_525 rfl ?_
                refine v_bipush dL_acts_527 (by decide) ?_
                refine v_icmp_ne 552 dL_acts_529 (by decide) (by have := iv_ci hJ.inv; omega) (by decide) (fun h529 => ?_) (fun h529 => ?_)
                · skip
                  refine v_iload dL_acts_552 rfl ?_
                  refine v_iload dL_acts_554 rfl ?_
                  refine v_if_eq 568 dL_acts_556 (by decide) (by decide) (fun h556 => ?_) (fun h556 => ?_)
                  · skip
                    exact absurd h556 (by decide)
                  · skip
                    refine v_iload dL_acts_559 rfl ?_
                    refine v_if_ne 568 dL_acts_561 (by decide) (by decide) (fun h561 => ?_) (fun h561 => ?_)
                    · skip
                      exact absurd h561 (by decide)
                    · skip
                      refine v_iconst dL_acts_564 ?_
                      refine v_goto 583 dL_acts_565 (by decide) ?_
                      refine v_iadd dL_acts_583 ?_
                      refine v_ist16 dL_acts_584 rfl ?_
                      refine v_aload_n 3 dL_acts_586 rfl rfl ?_
                      refine v_iload dL_acts_587 rfl ?_
                      refine v_iload dL_acts_589 rfl ?_
                      refine v_if_eq 606 dL_acts_591 (by decide) (by decide) (fun h591 => ?_) (fun h591 => ?_)
                      · skip
                        exact absurd h591 (by decide)
                      · skip
                        refine v_aload_n 3 dL_acts_594 rfl rfl ?_
                        refine v_iload dL_acts_595 rfl ?_
                        refine o_iald (j := ss) (u := v (256 + ss)) (rfl : SH 112 = _) (by omega) (by omega) (hW.2.2.1 ss hss) dL_acts_597 ?_
                        refine v_iconst dL_acts_598 ?_
                        refine v_iload dL_acts_599 rfl ?_
                        refine v_ishl dL_acts_601 ?_
                        refine v_ior dL_acts_602 ?_
                        refine o_eqI (u := ((wth (v (256 + ss)).toNat key (decide ((1 : Int) ≠ 0)) : Nat) : Int)) (nu_on (by omega) (by omega) (by omega)) ?_
                        refine v_goto 617 dL_acts_603 (by decide) ?_
                        refine o_iast (j := ss) (by omega) (rfl : SH 112 = _) (by omega) (by omega) dL_acts_617 ?_
                        obtain ⟨K, hK⟩ : ∃ K : Mem, K = (vup M.1 112 ss ((wth (v (256 + ss)).toNat key (decide ((1 : Int) ≠ 0)) : Nat) : Int), M.2) := ⟨_, rfl⟩
                        refine o_mem (M' := K) hK.symm ?_
                        have hJ := hJ.m (show mfr M K by rw [hK]; exact mfr_up (by decide))
                        refine v_aload_n 0 dL_acts_618 rfl rfl ?_
                        refine v_iload dL_acts_619 rfl ?_
                        refine v_iload dL_acts_621 rfl ?_
                        refine v_iload dL_acts_623 rfl ?_
                        refine oVq3 3 (q_cipher hJ (by omega) (by omega) (by decide) (⟨⟨by omega, by omega⟩, fun q => by
                            rw [Int.toNat_natCast, Int.toNat_natCast] at q
                            exact e3 q.2.2⟩)) k0_X3_cipher ki_X3_cipher ml_L_52 (rfl : SH 0 = _) (by decide) (vRo_of hxR (by decide) (by decide)) dL_acts_625 (Nat.le_of_ble_eq_true rfl) (fun N hN => ?_)
                        rw [Int.toNat_natCast, Int.toNat_natCast] at hN ⊢
                        obtain ⟨hJ, hF⟩ := hN
                        refine v_iload dL_acts_628 rfl ?_
                        refine v_icmp_neS dL_acts_630 650 (by decide) (cip_8 hss hkey (by rw [e2]; rfl)) ?_
                        refine v_aload_n 0 dL_acts_633 rfl rfl ?_
                        refine v_iconst dL_acts_634 ?_
                        refine v_bipush dL_acts_635 (by decide) ?_
                        refine v_iconst dL_acts_637 ?_
                        refine oVv3 3 (n_cipher hJ (by decide) (by decide) (by decide) (fun g => absurd g.1.2 (by decide))) k0_X3_cipher ki_X3_cipher ml_L_52 (rfl : SH 0 = _) (by decide) (vRo_of hxR (by decide) (by decide)) dL_acts_638 (Nat.le_of_ble_eq_true rfl) ?_
                        refine v_ldc (-1000001) kc_L_32 (by decide) dL_acts_641 ?_
                        refine v_icmp_neS dL_acts_643 650 (by decide) (by unfold eSK; rw [if_neg (fun g => absurd g.2 (by decide))]) ?_
                        refine v_iconst dL_acts_646 ?_
                        refine v_goto 651 dL_acts_647 (by decide) ?_
                        refine o_zret hQ hlk hrt (.inr rfl) dL_acts_651 ?_
                        exact ⟨rfl, _, _, _, _, _, _, _, _, hJ, hW.cip hss hK hF, fun n hn => hn.chg hJ.inv (fun i hi => sup_ne _ _ (by omega))⟩
                · skip
                  exact absurd h529 (by omega)
          · skip
            have hb0 : bP (bt (v (256 + ss)) key = true) = 1 := by
              rw [e2]
              rfl
            rw [hb0, e1]
            refine v_iload dL_acts_515 rfl ?_
            refine v_if_eq 552 dL_acts_517 (by decide) (by decide) (fun h517 => ?_) (fun h517 => ?_)
            · skip
              exact absurd h517 (by decide)
            · skip
              refine v_iload dL_acts_520 rfl ?_
              refine v_if_ne 552 dL_acts_522 (by decide) (by decide) (fun h522 => ?_) (fun h522 => ?_)
              · skip
                refine v_iload dL_acts_552 rfl ?_
                refine v_iload dL_acts_554 rfl ?_
                refine v_if_eq 568 dL_acts_556 (by decide) (by decide) (fun h556 => ?_) (fun h556 => ?_)
                · skip
                  exact absurd h556 (by decide)
                · skip
                  refine v_iload dL_acts_559 rfl ?_
                  refine v_if_ne 568 dL_acts_561 (by decide) (by decide) (fun h561 => ?_) (fun h561 => ?_)
                  · skip
                    refine v_iload dL_acts_568 rfl ?_
                    refine v_if_ne 582 dL_acts_570 (by decide) (by decide) (fun h570 => ?_) (fun h570 => ?_)
                    · skip
                      refine v_iconst dL_acts_582 ?_
                      refine v_iadd dL_acts_583 ?_
                      refine v_ist16 dL_acts_584 rfl ?_
                      refine v_aload_n 3 dL_acts_586 rfl rfl ?_
                      refine v_iload dL_acts_587 rfl ?_
                      refine v_iload dL_acts_589 rfl ?_
                      refine v_if_eq 606 dL_acts_591 (by decide) (by decide) (fun h591 => ?_) (fun h591 => ?_)
                      · skip
                        exact absurd h591 (by decide)
                      · skip
                        refine v_aload_n 3 dL_acts_594 rfl rfl ?_
                        refine v_iload dL_acts_595 rfl ?_
                        refine o_iald (j := ss) (u := v (256 + ss)) (rfl : SH 112 = _) (by omega) (by omega) (hW.2.2.1 ss hss) dL_acts_597 ?_
                        refine v_iconst dL_acts_598 ?_
                        refine v_iload dL_acts_599 rfl ?_
                        refine v_ishl dL_acts_601 ?_
                        refine v_ior dL_acts_602 ?_
                        refine o_eqI (u := ((wth (v (256 + ss)).toNat key (decide ((1 : Int) ≠ 0)) : Nat) : Int)) (nu_on (by omega) (by omega) (by omega)) ?_
                        refine v_goto 617 dL_acts_603 (by decide) ?_
                        refine o_iast (j := ss) (by omega) (rfl : SH 112 = _) (by omega) (by omega) dL_acts_617 ?_
                        obtain ⟨K, hK⟩ : ∃ K : Mem, K = (vup M.1 112 ss ((wth (v (256 + ss)).toNat key (decide ((1 : Int) ≠ 0)) : Nat) : Int), M.2) := ⟨_, rfl⟩
                        refine o_mem (M' := K) hK.symm ?_
                        have hJ := hJ.m (show mfr M K by rw [hK]; exact mfr_up (by decide))
                        refine v_aload_n 0 dL_acts_618 rfl rfl ?_
                        refine v_iload dL_acts_619 rfl ?_
                        refine v_iload dL_acts_621 rfl ?_
                        refine v_iload dL_acts_623 rfl ?_
                        refine oVq3 3 (q_cipher hJ (by omega) (by omega) (by decide) (⟨⟨by omega, by omega⟩, fun q => by
                            rw [Int.toNat_natCast, Int.toNat_natCast, e2] at q
                            exact absurd q.2.1 (by decide)⟩)) k0_X3_cipher ki_X3_cipher ml_L_52 (rfl : SH 0 = _) (by decide) (vRo_of hxR (by decide) (by decide)) dL_acts_625 (Nat.le_of_ble_eq_true rfl) (fun N hN => ?_)
                        rw [Int.toNat_natCast, Int.toNat_natCast] at hN ⊢
                        obtain ⟨hJ, hF⟩ := hN
                        refine v_iload dL_acts_628 rfl ?_
                        refine v_icmp_neS dL_acts_630 650 (by decide) (cip_8 hss hkey (by rw [e2]; rfl)) ?_
                        refine v_aload_n 0 dL_acts_633 rfl rfl ?_
                        refine v_iconst dL_acts_634 ?_
                        refine v_bipush dL_acts_635 (by decide) ?_
                        refine v_iconst dL_acts_637 ?_
                        refine oVv3 3 (n_cipher hJ (by decide) (by decide) (by decide) (fun g => absurd g.1.2 (by decide))) k0_X3_cipher ki_X3_cipher ml_L_52 (rfl : SH 0 = _) (by decide) (vRo_of hxR (by decide) (by decide)) dL_acts_638 (Nat.le_of_ble_eq_true rfl) ?_
                        refine v_ldc (-1000001) kc_L_32 (by decide) dL_acts_641 ?_
                        refine v_icmp_neS dL_acts_643 650 (by decide) (by unfold eSK; rw [if_neg (fun g => absurd g.2 (by decide))]) ?_
                        refine v_iconst dL_acts_646 ?_
                        refine v_goto 651 dL_acts_647 (by decide) ?_
                        refine o_zret hQ hlk hrt (.inr rfl) dL_acts_651 ?_
                        exact ⟨rfl, _, _, _, _, _, _, _, _, hJ, hW.cip hss hK hF, fun n hn => hn.chg hJ.inv (fun i hi => sup_ne _ _ (by omega))⟩
                    · skip
                      exact absurd h570 (by decide)
                  · skip
                    exact absurd h561 (by decide)
              · skip
                exact absurd h522 (by decide)
          · skip
            have hb0 : bP (bt (v (256 + ss)) key = true) = 0 := by
              rw [e2]
              rfl
            rw [hb0, e1]
            refine v_iload dL_acts_515 rfl ?_
            refine v_if_eq 552 dL_acts_517 (by decide) (by decide) (fun h517 => ?_) (fun h517 => ?_)
            · skip
              refine v_iload dL_acts_552 rfl ?_
              refine v_iload dL_acts_554 rfl ?_
              refine v_if_eq 568 dL_acts_556 (by decide) (by decide) (fun h556 => ?_) (fun h556 => ?_)
              · skip
                refine v_iload dL_acts_568 rfl ?_
                refine v_if_ne 582 dL_acts_570 (by decide) (by decide) (fun h570 => ?_) (fun h570 => ?_)
                · skip
                  exact absurd h570 (by decide)
                · skip
                  refine v_iload dL_acts_573 rfl ?_
                  refine v_if_eq 582 dL_acts_575 (by decide) (by decide) (fun h575 => ?_) (fun h575 => ?_)
                  · skip
                    refine v_iconst dL_acts_582 ?_
                    refine v_iadd dL_acts_583 ?_
                    refine v_ist16 dL_acts_584 rfl ?_
                    refine v_aload_n 3 dL_acts_586 rfl rfl ?_
                    refine v_iload dL_acts_587 rfl ?_
                    refine v_iload dL_acts_589 rfl ?_
                    refine v_if_eq 606 dL_acts_591 (by decide) (by decide) (fun h591 => ?_) (fun h591 => ?_)
                    · skip
                      refine v_aload_n 3 dL_acts_606 rfl rfl ?_
                      refine v_iload dL_acts_607 rfl ?_
                      refine o_iald (j := ss) (u := v (256 + ss)) (rfl : SH 112 = _) (by omega) (by omega) (hW.2.2.1 ss hss) dL_acts_609 ?_
                      refine v_iconst dL_acts_610 ?_
                      refine v_iload dL_acts_611 rfl ?_
                      refine v_ishl dL_acts_613 ?_
                      refine v_iconst dL_acts_614 ?_
                      refine v_ixor dL_acts_615 ?_
                      refine v_iand dL_acts_616 ?_
                      refine o_eqI (u := ((wth (v (256 + ss)).toNat key (decide ((0 : Int) ≠ 0)) : Nat) : Int)) (nu_off (by omega) (by omega) (by omega)) ?_
                      refine o_iast (j := ss) (by omega) (rfl : SH 112 = _) (by omega) (by omega) dL_acts_617 ?_
                      obtain ⟨K, hK⟩ : ∃ K : Mem, K = (vup M.1 112 ss ((wth (v (256 + ss)).toNat key (decide ((0 : Int) ≠ 0)) : Nat) : Int), M.2) := ⟨_, rfl⟩
                      refine o_mem (M' := K) hK.symm ?_
                      have hJ := hJ.m (show mfr M K by rw [hK]; exact mfr_up (by decide))
                      refine v_aload_n 0 dL_acts_618 rfl rfl ?_
                      refine v_iload dL_acts_619 rfl ?_
                      refine v_iload dL_acts_621 rfl ?_
                      refine v_iload dL_acts_623 rfl ?_
                      refine oVq3 3 (q_cipher hJ (by omega) (by omega) (by decide) (⟨⟨by omega, by omega⟩, fun q => q.1 rfl⟩)) k0_X3_cipher ki_X3_cipher ml_L_52 (rfl : SH 0 = _) (by decide) (vRo_of hxR (by decide) (by decide)) dL_acts_625 (Nat.le_of_ble_eq_true rfl) (fun N hN => ?_)
                      rw [Int.toNat_natCast, Int.toNat_natCast] at hN ⊢
                      obtain ⟨hJ, hF⟩ := hN
                      refine v_iload dL_acts_628 rfl ?_
                      refine v_icmp_neS dL_acts_630 650 (by decide) (cip_8 hss hkey (by rw [e2]; rfl)) ?_
                      refine v_aload_n 0 dL_acts_633 rfl rfl ?_
                      refine v_iconst dL_acts_634 ?_
                      refine v_bipush dL_acts_635 (by decide) ?_
                      refine v_iconst dL_acts_637 ?_
                      refine oVv3 3 (n_cipher hJ (by decide) (by decide) (by decide) (fun g => absurd g.1.2 (by decide))) k0_X3_cipher ki_X3_cipher ml_L_52 (rfl : SH 0 = _) (by decide) (vRo_of hxR (by decide) (by decide)) dL_acts_638 (Nat.le_of_ble_eq_true rfl) ?_
                      refine v_ldc (-1000001) kc_L_32 (by decide) dL_acts_641 ?_
                      refine v_icmp_neS dL_acts_643 650 (by decide) (by unfold eSK; rw [if_neg (fun g => absurd g.2 (by decide))]) ?_
                      refine v_iconst dL_acts_646 ?_
                      refine v_goto 651 dL_acts_647 (by decide) ?_
                      refine o_zret hQ hlk hrt (.inr rfl) dL_acts_651 ?_
                      exact ⟨rfl, _, _, _, _, _, _, _, _, hJ, hW.cip hss hK hF, fun n hn => hn.chg hJ.inv (fun i hi => sup_ne _ _ (by omega))⟩
                    · skip
                      exact absurd h591 (by decide)
                  · skip
                    exact absurd h575 (by decide)
              · skip
                exact absurd h556 (by decide)
            · skip
              exact absurd h517 (by decide)
          · skip
            have hb0 : bP (bt (v (256 + ss)) key = true) = 1 := by
              rw [e2]
              rfl
            rw [hb0, e1]
            refine v_iload dL_acts_515 rfl ?_
            refine v_if_eq 552 dL_acts_517 (by decide) (by decide) (fun h517 => ?_) (fun h517 => ?_)
            · skip
              refine v_iload dL_acts_552 rfl ?_
              refine v_iload dL_acts_554 rfl ?_
              refine v_if_eq 568 dL_acts_556 (by decide) (by decide) (fun h556 => ?_) (fun h556 => ?_)
              · skip
                refine v_iload dL_acts_568 rfl ?_
                refine v_if_ne 582 dL_acts_570 (by decide) (by decide) (fun h570 => ?_) (fun h570 => ?_)
                · skip
                  exact absurd h570 (by decide)
                · skip
                  refine v_iload dL_acts_573 rfl ?_
                  refine v_if_eq 582 dL_acts_575 (by decide) (by decide) (fun h575 => ?_) (fun h575 => ?_)
                  · skip
                    exact absurd h575 (by decide)
                  · skip
                    refine v_iconst dL_acts_578 ?_
                    refine v_goto 583 dL_acts_579 (by decide) ?_
                    refine v_iadd dL_acts_583 ?_
                    refine v_ist16 dL_acts_584 rfl ?_
                    refine v_aload_n 3 dL_acts_586 rfl rfl ?_
                    refine v_iload dL_acts_587 rfl ?_
                    refine v_iload dL_acts_589 rfl ?_
                    refine v_if_eq 606 dL_acts_591 (by decide) (by decide) (fun h591 => ?_) (fun h591 => ?_)
                    · skip
                      refine v_aload_n 3 dL_acts_606 rfl rfl ?_
                      refine v_iload dL_acts_607 rfl ?_
                      refine o_iald (j := ss) (u := v (256 + ss)) (rfl : SH 112 = _) (by omega) (by omega) (hW.2.2.1 ss hss) dL_acts_609 ?_
                      refine v_iconst dL_acts_610 ?_
                      refine v_iload dL_acts_611 rfl ?_
                      refine v_ishl dL_acts_613 ?_
                      refine v_iconst dL_acts_614 ?_
                      refine v_ixor dL_acts_615 ?_
                      refine v_iand dL_acts_616 ?_
                      refine o_eqI (u := ((wth (v (256 + ss)).toNat key (decide ((0 : Int) ≠ 0)) : Nat) : Int)) (nu_off (by omega) (by omega) (by omega)) ?_
                      refine o_iast (j := ss) (by omega) (rfl : SH 112 = _) (by omega) (by omega) dL_acts_617 ?_
                      obtain ⟨K, hK⟩ : ∃ K : Mem, K = (vup M.1 112 ss ((wth (v (256 + ss)).toNat key (decide ((0 : Int) ≠ 0)) : Nat) : Int), M.2) := ⟨_, rfl⟩
                      refine o_mem (M' := K) hK.symm ?_
                      have hJ := hJ.m (show mfr M K by rw [hK]; exact mfr_up (by decide))
                      refine v_aload_n 0 dL_acts_618 rfl rfl ?_
                      refine v_iload dL_acts_619 rfl ?_
                      refine v_iload dL_acts_621 rfl ?_
                      refine v_iload dL_acts_623 rfl ?_
                      refine oVq3 3 (q_cipher hJ (by omega) (by omega) (by decide) (⟨⟨by omega, by omega⟩, fun q => by
                          rw [Int.toNat_natCast, Int.toNat_natCast, e2] at q
                          exact absurd q.2.1 (by decide)⟩)) k0_X3_cipher ki_X3_cipher ml_L_52 (rfl : SH 0 = _) (by decide) (vRo_of hxR (by decide) (by decide)) dL_acts_625 (Nat.le_of_ble_eq_true rfl) (fun N hN => ?_)
                      rw [Int.toNat_natCast, Int.toNat_natCast] at hN ⊢
                      obtain ⟨hJ, hF⟩ := hN
                      refine v_iload dL_acts_628 rfl ?_
                      refine v_icmp_neS dL_acts_630 650 (by decide) (cip_8 hss hkey (by rw [e2]; rfl)) ?_
                      refine v_aload_n 0 dL_acts_633 rfl rfl ?_
                      refine v_iconst dL_acts_634 ?_
                      refine v_bipush dL_acts_635 (by decide) ?_
                      refine v_iconst dL_acts_637 ?_
                      refine oVv3 3 (n_cipher hJ (by decide) (by decide) (by decide) (fun g => absurd g.1.2 (by decide))) k0_X3_cipher ki_X3_cipher ml_L_52 (rfl : SH 0 = _) (by decide) (vRo_of hxR (by decide) (by decide)) dL_acts_638 (Nat.le_of_ble_eq_true rfl) ?_
                      refine v_ldc (-1000001) kc_L_32 (by decide) dL_acts_641 ?_
                      refine v_icmp_neS dL_acts_643 650 (by decide) (by unfold eSK; rw [if_neg (fun g => absurd g.2 (by decide))]) ?_
                      refine v_iconst dL_acts_646 ?_
                      refine v_goto 651 dL_acts_647 (by decide) ?_
                      refine o_zret hQ hlk hrt (.inr rfl) dL_acts_651 ?_
                      exact ⟨rfl, _, _, _, _, _, _, _, _, hJ, hW.cip hss hK hF, fun n hn => hn.chg hJ.inv (fun i hi => sup_ne _ _ (by omega))⟩
                    · skip
                      exact absurd h591 (by decide)
              · skip
                exact absurd h556 (by decide)
            · skip
              exact absurd h517 (by decide)
        · skip
          exact absurd h494 (by omega)
      | succ dd ih =>
        intro i hd
        refine v_iload dL_acts_490 rfl ?_
        refine v_bipush dL_acts_492 (by decide) ?_
        refine v_icmp_ge 515 dL_acts_494 (by decide) (by omega) (by decide) (fun h494 => ?_) (fun h494 => ?_)
        · skip
          exact absurd h494 (by omega)
        · skip
          refine v_iload dL_acts_497 rfl ?_
          refine v_aload_n 3 dL_acts_499 rfl rfl ?_
          refine v_iload dL_acts_500 rfl ?_
          refine o_iald (j := i) (u := (((v (256 + i)).toNat : Nat) : Int)) (rfl : SH 112 = _) (by omega) (by omega) (hW.z hJ.inv (by omega)) dL_acts_502 ?_
          refine oSv1 (c_L_bits (by have := (iv_st hJ.inv (show i < 8 by omega)).2.2.2.2; omega)) k0_L_bits ki_L_bits ml_L_45 (vRo_of hxR (by decide) (by decide)) dL_acts_503 (Nat.le_of_ble_eq_true rfl) ?_
          refine v_iadd dL_acts_506 ?_
          refine o_eqI (u := ((sCi v (i + 1) : Nat) : Int)) (by rw [sCi]; omega) ?_
          refine v_ist16 dL_acts_507 rfl ?_
          refine v_iinc17 dL_acts_509 rfl ?_
          refine v_goto 490 dL_acts_512 (by decide) ?_
          exact ih (i + 1) (by omega)
    exact lp490 8 0 rfl
  · skip
    refine v_tableOut 652 dL_acts_27 (by omega) (by omega) (by decide) ?_
    refine v_iload dL_acts_652 rfl ?_
    refine v_iconst dL_acts_654 ?_
    refine v_irem dL_acts_655 (by omega) (by decide) (by omega) ?_
    refine o_eqI (u := ((xx % 2 : Nat) : Int)) (md_n xx 2) ?_
    obtain ⟨m2, hm2e⟩ : ∃ m2 : Nat, m2 = xx % 2 := ⟨_, rfl⟩
    have hm2 : m2 < 2 := by omega
    have hu : 0 ≤ v (11 + m2) ∧ v (11 + m2) < 16777216 := by
      have hk := iv_key hJ.inv
      rcases (show m2 = 0 ∨ m2 = 1 by omega) with q | q <;> rw [q]
      · exact hk.2.1
      · exact hk.2.2
    refine o_eqI (u := ((m2 : Nat) : Int)) (by omega) ?_
    refine v_ist17 dL_acts_656 rfl ?_
    refine v_iload dL_acts_658 rfl ?_
    refine v_bipush dL_acts_660 (by decide) ?_
    refine v_ishr dL_acts_662 ?_
    refine o_eqI (u := ((xx / 256 : Nat) : Int)) (nu_shrN xx 8 (by omega) (by decide)) ?_
    refine v_iconst dL_acts_663 ?_
    refine v_irem dL_acts_664 (by omega) (by decide) (by omega) ?_
    refine o_eqI (u := (((xx / 256) % 4 : Nat) : Int)) (md_n (xx / 256) 4) ?_
    refine v_mle dL_acts_665 dL_acts_668 dL_acts_669 dL_acts_672 (by omega) ?_
    obtain ⟨on, hon⟩ : ∃ on : Int, on = bP (0 < (((xx / 256) % 4 : Nat) : Int)) := ⟨_, rfl⟩
    have ho : on = 0 ∨ on = 1 := by
      rw [hon]
      exact bP_01 _
    refine o_eqI (u := on) hon.symm ?_
    refine v_ist18 dL_acts_673 rfl ?_
    rcases ho with e1 | e1
    · skip
      rw [e1]
      refine v_aload dL_acts_675 rfl ?_
      refine v_iconst dL_acts_677 ?_
      refine v_iload dL_acts_678 rfl ?_
      refine v_iadd dL_acts_680 ?_
      refine v_iload dL_acts_681 rfl ?_
      refine v_if_eq 701 dL_acts_683 (by decide) (by decide) (fun h683 => ?_) (fun h683 => ?_)
      · skip
        refine v_aload dL_acts_701 rfl ?_
        refine v_iconst dL_acts_703 ?_
        refine v_iload dL_acts_704 rfl ?_
        refine v_iadd dL_acts_706 ?_
        refine o_iald (j := 2 + m2) (u := v (11 + m2)) (rfl : SH 113 = _) (by omega) (by omega) (hW.u hm2) dL_acts_707 ?_
        refine v_iconst dL_acts_708 ?_
        refine v_iload dL_acts_709 rfl ?_
        refine v_ishl dL_acts_711 ?_
        refine v_iconst dL_acts_712 ?_
        refine v_ixor dL_acts_713 ?_
        refine v_iand dL_acts_714 ?_
        refine o_eqI (u := ((wth (v (11 + m2)).toNat key (decide ((0 : Int) ≠ 0)) : Nat) : Int)) (nu_off (by omega) (by omega) (by omega)) ?_
        refine o_iast (j := 2 + m2) (by omega) (rfl : SH 113 = _) (by omega) (by omega) dL_acts_715 ?_
        obtain ⟨K, hK⟩ : ∃ K : Mem, K = (vup M.1 113 (2 + m2) ((wth (v (11 + m2)).toNat key (decide ((0 : Int) ≠ 0)) : Nat) : Int), M.2) := ⟨_, rfl⟩
        refine o_mem (M' := K) hK.symm ?_
        have hJ := hJ.m (show mfr M K by rw [hK]; exact mfr_up (by decide))
        refine v_aload_n 0 dL_acts_716 rfl rfl ?_
        refine v_iload dL_acts_717 rfl ?_
        refine v_iload dL_acts_719 rfl ?_
        refine v_iload dL_acts_721 rfl ?_
        refine oVq3 3 (q_press hJ (by omega) (by omega) (by decide) ⟨by omega, by omega⟩) k0_X3_press ki_X3_press ml_L_57 (rfl : SH 0 = _) (by decide) (vRo_of hxR (by decide) (by decide)) dL_acts_723 (Nat.le_of_ble_eq_true rfl) (fun N hN => ?_)
        rw [Int.toNat_natCast, Int.toNat_natCast] at hN ⊢
        obtain ⟨hJ, hF⟩ := hN
        have hW2 := hW.pre hm2 hK hF
        have hu2 : 0 ≤ sPre v m2 key 0 (11 + m2) ∧ sPre v m2 key 0 (11 + m2) < 16777216 := by
          have hk := iv_key hJ.inv
          rcases (show m2 = 0 ∨ m2 = 1 by omega) with q | q <;> rw [q] at hk ⊢
          · exact hk.2.1
          · exact hk.2.2
        refine v_aload dL_acts_726 rfl ?_
        refine v_iconst dL_acts_728 ?_
        refine v_iload dL_acts_729 rfl ?_
        refine v_iadd dL_acts_731 ?_
        refine o_iald (j := 2 + m2) (u := (((sPre v m2 key 0 (11 + m2)).toNat : Nat) : Int)) (rfl : SH 113 = _) (by omega) (by omega) (by rw [hW2.u hm2]; omega) dL_acts_732 ?_
        refine oSv1 (c_L_bits (by omega)) k0_L_bits ki_L_bits ml_L_45 (vRo_of hxR (by decide) (by decide)) dL_acts_733 (Nat.le_of_ble_eq_true rfl) ?_
        refine v_icmp_neS dL_acts_736 767 (by decide) rfl ?_
        refine v_aload_n 0 dL_acts_739 rfl rfl ?_
        refine v_iconst dL_acts_740 ?_
        refine v_iconst dL_acts_741 ?_
        refine v_iconst dL_acts_742 ?_
        refine oVv3 3 (n_press hJ (by decide) (by decide) (by decide) (fun g => absurd g.1 (by decide))) k0_X3_press ki_X3_press ml_L_57 (rfl : SH 0 = _) (by decide) (vRo_of hxR (by decide) (by decide)) dL_acts_743 (Nat.le_of_ble_eq_true rfl) ?_
        refine v_ldc (-1000001) kc_L_32 (by decide) dL_acts_746 ?_
        refine v_icmp_neS dL_acts_748 767 (by decide) rfl ?_
        refine v_aload_n 0 dL_acts_751 rfl rfl ?_
        refine v_iconst dL_acts_752 ?_
        refine v_iconst dL_acts_753 ?_
        refine v_iconst dL_acts_754 ?_
        refine oVv3 3 (n_press hJ (by decide) (by decide) (by decide) (fun g => absurd g.2 (by decide))) k0_X3_press ki_X3_press ml_L_57 (rfl : SH 0 = _) (by decide) (vRo_of hxR (by decide) (by decide)) dL_acts_755 (Nat.le_of_ble_eq_true rfl) ?_
        refine v_ldc (-1000001) kc_L_32 (by decide) dL_acts_758 ?_
        refine v_icmp_neS dL_acts_760 767 (by decide) rfl ?_
        refine v_iconst dL_acts_763 ?_
        refine v_goto 768 dL_acts_764 (by decide) ?_
        refine o_zret hQ hlk hrt (.inr rfl) dL_acts_768 ?_
        exact ⟨rfl, _, _, _, _, _, _, _, _, hJ, hW2, fun n hn => hn.chg hJ.inv (fun i hi => sup_ne _ _ (by omega))⟩
      · skip
        exact absurd h683 (by decide)
    · skip
      rw [e1]
      refine v_aload dL_acts_675 rfl ?_
      refine v_iconst dL_acts_677 ?_
      refine v_iload dL_acts_678 rfl ?_
      refine v_iadd dL_acts_680 ?_
      refine v_iload dL_acts_681 rfl ?_
      refine v_if_eq 701 dL_acts_683 (by decide) (by decide) (fun h683 => ?_) (fun h683 => ?_)
      · skip
        exact absurd h683 (by decide)
      · skip
        refine v_aload dL_acts_686 rfl ?_
        refine v_iconst dL_acts_688 ?_
        refine v_iload dL_acts_689 rfl ?_
        refine v_iadd dL_acts_691 ?_
        refine o_iald (j := 2 + m2) (u := v (11 + m2)) (rfl : SH 113 = _) (by omega) (by omega) (hW.u hm2) dL_acts_692 ?_
        refine v_iconst dL_acts_693 ?_
        refine v_iload dL_acts_694 rfl ?_
        refine v_ishl dL_acts_696 ?_
        refine v_ior dL_acts_697 ?_
        refine o_eqI (u := ((wth (v (11 + m2)).toNat key (decide ((1 : Int) ≠ 0)) : Nat) : Int)) (nu_on (by omega) (by omega) (by omega)) ?_
        refine v_goto 715 dL_acts_698 (by decide) ?_
        refine o_iast (j := 2 + m2) (by omega) (rfl : SH 113 = _) (by omega) (by omega) dL_acts_715 ?_
        obtain ⟨K, hK⟩ : ∃ K : Mem, K = (vup M.1 113 (2 + m2) ((wth (v (11 + m2)).toNat key (decide ((1 : Int) ≠ 0)) : Nat) : Int), M.2) := ⟨_, rfl⟩
        refine o_mem (M' := K) hK.symm ?_
        have hJ := hJ.m (show mfr M K by rw [hK]; exact mfr_up (by decide))
        refine v_aload_n 0 dL_acts_716 rfl rfl ?_
        refine v_iload dL_acts_717 rfl ?_
        refine v_iload dL_acts_719 rfl ?_
        refine v_iload dL_acts_721 rfl ?_
        refine oVq3 3 (q_press hJ (by omega) (by omega) (by decide) ⟨by omega, by omega⟩) k0_X3_press ki_X3_press ml_L_57 (rfl : SH 0 = _) (by decide) (vRo_of hxR (by decide) (by decide)) dL_acts_723 (Nat.le_of_ble_eq_true rfl) (fun N hN => ?_)
        rw [Int.toNat_natCast, Int.toNat_natCast] at hN ⊢
        obtain ⟨hJ, hF⟩ := hN
        have hW2 := hW.pre hm2 hK hF
        have hu2 : 0 ≤ sPre v m2 key 1 (11 + m2) ∧ sPre v m2 key 1 (11 + m2) < 16777216 := by
          have hk := iv_key hJ.inv
          rcases (show m2 = 0 ∨ m2 = 1 by omega) with q | q <;> rw [q] at hk ⊢
          · exact hk.2.1
          · exact hk.2.2
        refine v_aload dL_acts_726 rfl ?_
        refine v_iconst dL_acts_728 ?_
        refine v_iload dL_acts_729 rfl ?_
        refine v_iadd dL_acts_731 ?_
        refine o_iald (j := 2 + m2) (u := (((sPre v m2 key 1 (11 + m2)).toNat : Nat) : Int)) (rfl : SH 113 = _) (by omega) (by omega) (by rw [hW2.u hm2]; omega) dL_acts_732 ?_
        refine oSv1 (c_L_bits (by omega)) k0_L_bits ki_L_bits ml_L_45 (vRo_of hxR (by decide) (by decide)) dL_acts_733 (Nat.le_of_ble_eq_true rfl) ?_
        refine v_icmp_neS dL_acts_736 767 (by decide) rfl ?_
        refine v_aload_n 0 dL_acts_739 rfl rfl ?_
        refine v_iconst dL_acts_740 ?_
        refine v_iconst dL_acts_741 ?_
        refine v_iconst dL_acts_742 ?_
        refine oVv3 3 (n_press hJ (by decide) (by decide) (by decide) (fun g => absurd g.1 (by decide))) k0_X3_press ki_X3_press ml_L_57 (rfl : SH 0 = _) (by decide) (vRo_of hxR (by decide) (by decide)) dL_acts_743 (Nat.le_of_ble_eq_true rfl) ?_
        refine v_ldc (-1000001) kc_L_32 (by decide) dL_acts_746 ?_
        refine v_icmp_neS dL_acts_748 767 (by decide) rfl ?_
        refine v_aload_n 0 dL_acts_751 rfl rfl ?_
        refine v_iconst dL_acts_752 ?_
        refine v_iconst dL_acts_753 ?_
        refine v_iconst dL_acts_754 ?_
        refine oVv3 3 (n_press hJ (by decide) (by decide) (by decide) (fun g => absurd g.2 (by decide))) k0_X3_press ki_X3_press ml_L_57 (rfl : SH 0 = _) (by decide) (vRo_of hxR (by decide) (by decide)) dL_acts_755 (Nat.le_of_ble_eq_true rfl) ?_
        refine v_ldc (-1000001) kc_L_32 (by decide) dL_acts_758 ?_
        refine v_icmp_neS dL_acts_760 767 (by decide) rfl ?_
        refine v_iconst dL_acts_763 ?_
        refine v_goto 768 dL_acts_764 (by decide) ?_
        refine o_zret hQ hlk hrt (.inr rfl) dL_acts_768 ?_
        exact ⟨rfl, _, _, _, _, _, _, _, _, hJ, hW2, fun n hn => hn.chg hJ.inv (fun i hi => sup_ne _ _ (by omega))⟩
