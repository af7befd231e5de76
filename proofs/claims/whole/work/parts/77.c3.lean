/-! ===== constructors: the twin ===== -/
def F4k : Nat → Nat
  | 0 => 0
  | 1 => 1
  | 2 => 2
  | 3 => 4
  | 4 => 5
  | 5 => 6
  | 6 => 8
  | 7 => 9
  | 8 => 10
  | 9 => 11
  | 10 => 12
  | 11 => 13
  | 12 => 14
  | 13 => 15
  | 14 => 16
  | _ => 21
theorem F4k_ne : ∀ j, j < 16 → ∀ k, k < j → F4k k ≠ F4k j := by decide +kernel
def w9 (z0 z1 z2 z3 z4 z5 z6 z7 z8 : Int) : Nat → Int := fun a => if a = 8 then z8 else if a = 7 then z7 else if a = 6 then z6 else if a = 5 then z5 else if a = 4 then z4 else if a = 3 then z3 else if a = 2 then z2 else if a = 1 then z1 else if a = 0 then z0 else 0
def W4 : Nat → Nat → Int := fun i => if i = 117 then w9 20 0 0 100 1000 0 10 1 0 else if i = 118 then w9 200 100 100 2000 20000 20000 500 8 32 else if i = 119 then w9 80 10 10 500 6000 4000 120 4 8 else fun _ => 0
theorem ch9 {g : Nat → Nat → Int} {n : Nat} {z0 z1 z2 z3 z4 z5 z6 z7 z8 : Int} (h : g n = fun _ => 0) : vup (vup (vup (vup (vup (vup (vup (vup (vup g n 0 z0) n 1 z1) n 2 z2) n 3 z3) n 4 z4) n 5 z5) n 6 z6) n 7 z7) n 8 z8 n = w9 z0 z1 z2 z3 z4 z5 z6 z7 z8 := by
  funext a
  rw [vup_in, vup_in, vup_in, vup_in, vup_in, vup_in, vup_in, vup_in, vup_in, h]
  rfl
theorem ch9o {g : Nat → Nat → Int} {n i : Nat} (hi : i ≠ n) {z0 z1 z2 z3 z4 z5 z6 z7 z8 : Int} : vup (vup (vup (vup (vup (vup (vup (vup (vup g n 0 z0) n 1 z1) n 2 z2) n 3 z3) n 4 z4) n 5 z5) n 6 z6) n 7 z7) n 8 z8 i = g i := by
  funext a
  rw [vup_o (.inl hi), vup_o (.inl hi), vup_o (.inl hi), vup_o (.inl hi), vup_o (.inl hi), vup_o (.inl hi), vup_o (.inl hi), vup_o (.inl hi), vup_o (.inl hi)]
theorem w9_lo : ∀ k, k < 9 → w9 20 0 0 100 1000 0 10 1 0 k = tLo k := by decide +kernel
theorem w9_hi : ∀ k, k < 9 → w9 200 100 100 2000 20000 20000 500 8 32 k = tHi k := by decide +kernel
theorem w9_fs : ∀ k, k < 9 → w9 80 10 10 500 6000 4000 120 4 8 k = tFs k := by decide +kernel
/-- the twin's cells are made, its row is g -/
def MI (g : Sg) (M0 K : Mem) : Prop := (∀ i, (i < 110 ∨ 127 ≤ i) → K.1 i = M0.1 i ∧ K.2 i = M0.2 i) ∧ (∀ i, 110 ≤ i → i < 127 → i ≠ 111 → K.1 i = W4 i) ∧ (∀ k, k < 16 → K.2 110 (F4k k) = some (110 + 1 + k)) ∧ K.1 111 = g
theorem MI.up {g g' : Sg} {M0 K : Mem} (h : MI g M0 K) {j : Nat} {z : Int} (e : ∀ q, g' q = if q = j then z else g q) : MI g' M0 (vup K.1 (110 + 1 + 0) j z, K.2) := by
  obtain ⟨h1, h2, h3, h4⟩ := h
  refine ⟨fun i hi => ⟨?_, (h1 i hi).2⟩, fun i p q r => ?_, h3, ?_⟩ <;> dsimp only
  · rw [← (h1 i hi).1]; funext a; rw [vup_o (by omega)]
  · rw [← h2 i p q r]; funext a; rw [vup_o (by omega)]
  · funext a; rw [e a, ← h4]; exact vup_in
def g1 (i : Nat) : Sg := fun q => if q = 0 then 3000 else if q < 1 + i then tFs (q - 1) else 0
def g2 (s : Nat) : Sg := fun q => if q < 10 then sg0 q else if 24 ≤ q ∧ q < 24 + 5 * s then sg0 q else 0
theorem MI.ini {M0 M : Mem} (h : nG 110 16 F4k W4 M0 M) : MI (g1 0) M0 (vup M.1 (110 + 1 + 0) 0 3000, M.2) := by
  obtain ⟨h1, h2, h3⟩ := h
  refine MI.up (g := fun _ => 0) ⟨fun i hi => h1 i (by omega), fun i p q r => h2 i p (by omega), h3, h2 111 (by decide) (by decide)⟩ (fun q => ?_)
  unfold g1
  by_cases e : q = 0
  · rw [if_pos e, if_pos e]
  · rw [if_neg e, if_neg e, if_neg (by omega)]
theorem g1_s {i : Nat} (hi : i < 9) (q : Nat) : g1 (i + 1) q = if q = 1 + i then tFs i else g1 i q := by
  unfold g1
  by_cases e : q = 1 + i
  · rw [if_pos e, if_neg (by omega), if_pos (by omega), e, Nat.add_sub_cancel_left]
  · rw [if_neg e]
    by_cases e2 : q = 0
    · rw [if_pos e2, if_pos e2]
    · rw [if_neg e2, if_neg e2]
      by_cases e3 : q < 1 + i
      · rw [if_pos e3, if_pos (by omega)]
      · rw [if_neg e3, if_neg (by omega)]
theorem g1_9 : g1 9 = g2 0 := by
  funext q
  unfold g1 g2
  by_cases e2 : q = 0
  · rw [if_pos e2, if_pos (by omega), e2]; rfl
  · rw [if_neg e2]
    by_cases e3 : q < 10
    · rw [if_pos (by omega), if_pos e3]
      obtain ⟨k, rfl⟩ : ∃ k, q = 1 + k := ⟨q - 1, by omega⟩
      rw [sg0_set (by omega), Nat.add_sub_cancel_left]
    · rw [if_neg (by omega), if_neg e3, if_neg (by omega)]
theorem g2_s {s : Nat} (hs : s < 8) (q : Nat) : g2 (s + 1) q = if q = 24 + 5 * s + 2 then 20 + 5 * (s : Int) else if q = 24 + 5 * s + 1 then 4 + 2 * (s : Int) else if q = 24 + 5 * s then ((s % 2 : Nat) : Int) else g2 s q := by
  have hz := sg0_st s hs
  unfold g2
  by_cases e0 : q < 10
  · rw [if_pos e0, if_neg (by omega), if_neg (by omega), if_neg (by omega), if_pos e0]
  · rw [if_neg e0, if_neg e0]
    by_cases e1 : q = 24 + 5 * s + 2
    · rw [if_pos e1, if_pos (by omega), e1]; exact hz.2.2.1
    · rw [if_neg e1]
      by_cases e2 : q = 24 + 5 * s + 1
      · rw [if_pos e2, if_pos (by omega), e2]; exact hz.2.1
      · rw [if_neg e2]
        by_cases e3 : q = 24 + 5 * s
        · rw [if_pos e3, if_pos (by omega), e3]; exact hz.1
        · rw [if_neg e3]
          by_cases e4 : 24 ≤ q ∧ q < 24 + 5 * s
          · rw [if_pos e4, if_pos (by omega)]
          · rw [if_neg e4]
            by_cases e5 : q = 24 + 5 * s + 3
            · rw [if_pos (by omega), e5]; exact hz.2.2.2.1
            · by_cases e6 : q = 24 + 5 * s + 4
              · rw [if_pos (by omega), e6]; exact hz.2.2.2.2
              · rw [if_neg (by omega)]
theorem g2_8 : g2 8 = sg0 := by
  funext q
  unfold g2
  by_cases e : q < 10
  · rw [if_pos e]
  · rw [if_neg e]
    by_cases e2 : 24 ≤ q ∧ q < 24 + 5 * 8
    · rw [if_pos e2]
    · rw [if_neg e2]
      unfold sg0
      rw [if_neg (by omega), if_neg e, if_neg (by omega)]
theorem MI.st {M0 K : Mem} {s : Nat} (hs : s < 8) (h : MI (g2 s) M0 K) : MI (g2 (s + 1)) M0 (vup (vup (vup K.1 (110 + 1 + 0) (24 + 5 * s) ((s % 2 : Nat) : Int)) (110 + 1 + 0) (24 + 5 * s + 1) (4 + 2 * (s : Int))) (110 + 1 + 0) (24 + 5 * s + 2) (20 + 5 * (s : Int)), K.2) := by
  have a := h.up (j := 24 + 5 * s) (z := ((s % 2 : Nat) : Int)) (fun q => rfl)
  have b := a.up (j := 24 + 5 * s + 1) (z := 4 + 2 * (s : Int)) (fun q => rfl)
  exact b.up (fun q => g2_s hs q)
set_option maxRecDepth 100000 in
set_option maxHeartbeats 1000000 in
theorem c_X4_init {l : Launch} {G : vGG} {M : Mem} (hz : M.1 110 = W4 110) : Ct l yX4_init cX4_init 2 none (rmk 1 16 3075 12) G [aR (some 110)] (shU (110 + 1)) (110 + 1) M (vPn (110 + 1 + 16) (MI sg0 M)) := by
  refine Ct.ofV (plainFor_of_name (by decide)) rfl rfl ?_
  intro x hxl hxR hlk hrt hnm Q hQ
  have hin : (xM x).name = "<init>" := hnm
  obtain ⟨M0, hM0⟩ : ∃ M0 : Mem, M0 = M := ⟨_, rfl⟩
  have hG : nG 110 0 F4k W4 M0 M := by rw [hM0]; exact nG.z hz
  show vU x Q G cX4_init RX4 (110 + 1) 0 0 0 [some (aR (some 110)), none] [] M
  refine v_aload_n 0 dX4_init_0 rfl rfl ?_
  refine v_objInit ml_X4_1 lo_i lo_c rfl (by rw [hxR]; decide) (by rw [hxR]; decide) dX4_init_1 ?_
  refine v_aload_n 0 dX4_init_4 rfl rfl ?_
  refine v_sipush dX4_init_5 (by decide) ?_
  refine u_newI (rfl : SH (110 + 1 + 0) = _) rfl (by decide) (by omega) (by rw [hxR]; exact Nat.le_of_ble_eq_true rfl) (by rw [hxR]; exact Nat.le_of_ble_eq_true rfl) dX4_init_8 ?_
  refine v_putFR hin lf_X4_7 rfl (fun _ => rfl) (fun _ => rfl) (shU_at (rfl : SH 110 = _) (by omega)) dX4_init_10 ?_
  refine u_mem (P := nG 110 1 F4k W4 M0) (hG.mk (F := F4k) (F4k_ne 0 (by decide)) rfl) (fun M hG => ?_)
  show vU x Q G cX4_init RX4 (110 + 1 + 1) 1 264 13 [some (aR (some 110)), none] [] M
  refine v_aload_n 0 dX4_init_13 rfl rfl ?_
  refine v_sipush dX4_init_14 (by decide) ?_
  refine u_newI (rfl : SH (110 + 1 + 1) = _) rfl (by decide) (by omega) (by rw [hxR]; exact Nat.le_of_ble_eq_true rfl) (by rw [hxR]; exact Nat.le_of_ble_eq_true rfl) dX4_init_17 ?_
  refine v_putFR hin lf_X4_13 rfl (fun _ => rfl) (fun _ => rfl) (shU_at (rfl : SH 110 = _) (by omega)) dX4_init_19 ?_
  refine u_mem (P := nG 110 2 F4k W4 M0) (hG.mk (F := F4k) (F4k_ne 1 (by decide)) rfl) (fun M hG => ?_)
  show vU x Q G cX4_init RX4 (110 + 1 + 2) 2 528 22 [some (aR (some 110)), none] [] M
  refine v_aload_n 0 dX4_init_22 rfl rfl ?_
  refine v_sipush dX4_init_23 (by decide) ?_
  refine u_newI (rfl : SH (110 + 1 + 2) = _) rfl (by decide) (by omega) (by rw [hxR]; exact Nat.le_of_ble_eq_true rfl) (by rw [hxR]; exact Nat.le_of_ble_eq_true rfl) dX4_init_26 ?_
  refine v_putFR hin lf_X4_16 rfl (fun _ => rfl) (fun _ => rfl) (shU_at (rfl : SH 110 = _) (by omega)) dX4_init_28 ?_
  refine u_mem (P := nG 110 3 F4k W4 M0) (hG.mk (F := F4k) (F4k_ne 2 (by decide)) rfl) (fun M hG => ?_)
  show vU x Q G cX4_init RX4 (110 + 1 + 3) 3 1848 31 [some (aR (some 110)), none] [] M
  refine v_aload_n 0 dX4_init_31 rfl rfl ?_
  refine v_sipush dX4_init_32 (by decide) ?_
  refine u_newI (rfl : SH (110 + 1 + 3) = _) rfl (by decide) (by omega) (by rw [hxR]; exact Nat.le_of_ble_eq_true rfl) (by rw [hxR]; exact Nat.le_of_ble_eq_true rfl) dX4_init_35 ?_
  refine v_putFR hin lf_X4_19 rfl (fun _ => rfl) (fun _ => rfl) (shU_at (rfl : SH 110 = _) (by omega)) dX4_init_37 ?_
  refine u_mem (P := nG 110 4 F4k W4 M0) (hG.mk (F := F4k) (F4k_ne 3 (by decide)) rfl) (fun M hG => ?_)
  show vU x Q G cX4_init RX4 (110 + 1 + 4) 4 2376 40 [some (aR (some 110)), none] [] M
  refine v_aload_n 0 dX4_init_40 rfl rfl ?_
  refine v_iconst dX4_init_41 ?_
  refine u_newZ (rfl : SH (110 + 1 + 4) = _) rfl (by decide) (by omega) (by rw [hxR]; exact Nat.le_of_ble_eq_true rfl) (by rw [hxR]; exact Nat.le_of_ble_eq_true rfl) dX4_init_42 ?_
  refine v_putFR hin lf_X4_22 rfl (fun _ => rfl) (fun _ => rfl) (shU_at (rfl : SH 110 = _) (by omega)) dX4_init_44 ?_
  refine u_mem (P := nG 110 5 F4k W4 M0) (hG.mk (F := F4k) (F4k_ne 4 (by decide)) rfl) (fun M hG => ?_)
  show vU x Q G cX4_init RX4 (110 + 1 + 5) 5 2378 47 [some (aR (some 110)), none] [] M
  refine v_aload_n 0 dX4_init_47 rfl rfl ?_
  refine v_bipush dX4_init_48 (by decide) ?_
  refine u_newI (rfl : SH (110 + 1 + 5) = _) rfl (by decide) (by omega) (by rw [hxR]; exact Nat.le_of_ble_eq_true rfl) (by rw [hxR]; exact Nat.le_of_ble_eq_true rfl) dX4_init_50 ?_
  refine v_putFR hin lf_X4_26 rfl (fun _ => rfl) (fun _ => rfl) (shU_at (rfl : SH 110 = _) (by omega)) dX4_init_52 ?_
  refine u_mem (P := nG 110 6 F4k W4 M0) (hG.mk (F := F4k) (F4k_ne 5 (by decide)) rfl) (fun M hG => ?_)
  show vU x Q G cX4_init RX4 (110 + 1 + 6) 6 2458 55 [some (aR (some 110)), none] [] M
  refine v_aload_n 0 dX4_init_55 rfl rfl ?_
  refine v_bipush dX4_init_56 (by decide) ?_
  refine u_newI (rfl : SH (110 + 1 + 6) = _) rfl (by decide) (by omega) (by rw [hxR]; exact Nat.le_of_ble_eq_true rfl) (by rw [hxR]; exact Nat.le_of_ble_eq_true rfl) dX4_init_58 ?_
  refine v_dup dX4_init_60 rfl ?_
  refine v_iconst dX4_init_61 ?_
  refine v_bipush dX4_init_62 (by decide) ?_
  refine u_iast (j := 0) (by omega) (rfl : SH (110 + 1 + 6) = _) (by omega) (by omega) (by omega) dX4_init_64 ?_
  refine v_dup dX4_init_65 rfl ?_
  refine v_iconst dX4_init_66 ?_
  refine v_iconst dX4_init_67 ?_
  refine u_iast (j := 1) (by omega) (rfl : SH (110 + 1 + 6) = _) (by omega) (by omega) (by omega) dX4_init_68 ?_
  refine v_dup dX4_init_69 rfl ?_
  refine v_iconst dX4_init_70 ?_
  refine v_iconst dX4_init_71 ?_
  refine u_iast (j := 2) (by omega) (rfl : SH (110 + 1 + 6) = _) (by omega) (by omega) (by omega) dX4_init_72 ?_
  refine v_dup dX4_init_73 rfl ?_
  refine v_iconst dX4_init_74 ?_
  refine v_bipush dX4_init_75 (by decide) ?_
  refine u_iast (j := 3) (by omega) (rfl : SH (110 + 1 + 6) = _) (by omega) (by omega) (by omega) dX4_init_77 ?_
  refine v_dup dX4_init_78 rfl ?_
  refine v_iconst dX4_init_79 ?_
  refine v_sipush dX4_init_80 (by decide) ?_
  refine u_iast (j := 4) (by omega) (rfl : SH (110 + 1 + 6) = _) (by omega) (by omega) (by omega) dX4_init_83 ?_
  refine v_dup dX4_init_84 rfl ?_
  refine v_iconst dX4_init_85 ?_
  refine v_iconst dX4_init_86 ?_
  refine u_iast (j := 5) (by omega) (rfl : SH (110 + 1 + 6) = _) (by omega) (by omega) (by omega) dX4_init_87 ?_
  refine v_dup dX4_init_88 rfl ?_
  refine v_bipush dX4_init_89 (by decide) ?_
  refine v_bipush dX4_init_91 (by decide) ?_
  refine u_iast (j := 6) (by omega) (rfl : SH (110 + 1 + 6) = _) (by omega) (by omega) (by omega) dX4_init_93 ?_
  refine v_dup dX4_init_94 rfl ?_
  refine v_bipush dX4_init_95 (by decide) ?_
  refine v_iconst dX4_init_97 ?_
  refine u_iast (j := 7) (by omega) (rfl : SH (110 + 1 + 6) = _) (by omega) (by omega) (by omega) dX4_init_98 ?_
  refine v_dup dX4_init_99 rfl ?_
  refine v_bipush dX4_init_100 (by decide) ?_
  refine v_iconst dX4_init_102 ?_
  refine u_iast (j := 8) (by omega) (rfl : SH (110 + 1 + 6) = _) (by omega) (by omega) (by omega) dX4_init_103 ?_
  refine v_putFR hin lf_X4_29 rfl (fun _ => rfl) (fun _ => rfl) (shU_at (rfl : SH 110 = _) (by omega)) dX4_init_104 ?_
  refine u_mem (P := nG 110 7 F4k W4 M0) (hG.mkV (F := F4k) (F4k_ne 6 (by decide)) (fun i hi => (ch9o hi).trans (vz_1 hi)) (ch9 vz_s)) (fun M hG => ?_)
  show vU x Q G cX4_init RX4 (110 + 1 + 7) 7 2467 107 [some (aR (some 110)), none] [] M
  refine v_aload_n 0 dX4_init_107 rfl rfl ?_
  refine v_bipush dX4_init_108 (by decide) ?_
  refine u_newI (rfl : SH (110 + 1 + 7) = _) rfl (by decide) (by omega) (by rw [hxR]; exact Nat.le_of_ble_eq_true rfl) (by rw [hxR]; exact Nat.le_of_ble_eq_true rfl) dX4_init_110 ?_
  refine v_dup dX4_init_112 rfl ?_
  refine v_iconst dX4_init_113 ?_
  refine v_sipush dX4_init_114 (by decide) ?_
  refine u_iast (j := 0) (by omega) (rfl : SH (110 + 1 + 7) = _) (by omega) (by omega) (by omega) dX4_init_117 ?_
  refine v_dup dX4_init_118 rfl ?_
  refine v_iconst dX4_init_119 ?_
  refine v_bipush dX4_init_120 (by decide) ?_
  refine u_iast (j := 1) (by omega) (rfl : SH (110 + 1 + 7) = _) (by omega) (by omega) (by omega) dX4_init_122 ?_
  refine v_dup dX4_init_123 rfl ?_
  refine v_iconst dX4_init_124 ?_
  refine v_bipush dX4_init_125 (by decide) ?_
  refine u_iast (j := 2) (by omega) (rfl : SH (110 + 1 + 7) = _) (by omega) (by omega) (by omega) dX4_init_127 ?_
  refine v_dup dX4_init_128 rfl ?_
  refine v_iconst dX4_init_129 ?_
  refine v_sipush dX4_init_130 (by decide) ?_
  refine u_iast (j := 3) (by omega) (rfl : SH (110 + 1 + 7) = _) (by omega) (by omega) (by omega) dX4_init_133 ?_
  refine v_dup dX4_init_134 rfl ?_
  refine v_iconst dX4_init_135 ?_
  refine v_sipush dX4_init_136 (by decide) ?_
  refine u_iast (j := 4) (by omega) (rfl : SH (110 + 1 + 7) = _) (by omega) (by omega) (by omega) dX4_init_139 ?_
  refine v_dup dX4_init_140 rfl ?_
  refine v_iconst dX4_init_141 ?_
  refine v_sipush dX4_init_142 (by decide) ?_
  refine u_iast (j := 5) (by omega) (rfl : SH (110 + 1 + 7) = _) (by omega) (by omega) (by omega) dX4_init_145 ?_
  refine v_dup dX4_init_146 rfl ?_
  refine v_bipush dX4_init_147 (by decide) ?_
  refine v_sipush dX4_init_149 (by decide) ?_
  refine u_iast (j := 6) (by omega) (rfl : SH (110 + 1 + 7) = _) (by omega) (by omega) (by omega) dX4_init_152 ?_
  refine v_dup dX4_init_153 rfl ?_
  refine v_bipush dX4_init_154 (by decide) ?_
  refine v_bipush dX4_init_156 (by decide) ?_
  refine u_iast (j := 7) (by omega) (rfl : SH (110 + 1 + 7) = _) (by omega) (by omega) (by omega) dX4_init_158 ?_
  refine v_dup dX4_init_159 rfl ?_
  refine v_bipush dX4_init_160 (by decide) ?_
  refine v_bipush dX4_init_162 (by decide) ?_
  refine u_iast (j := 8) (by omega) (rfl : SH (110 + 1 + 7) = _) (by omega) (by omega) (by omega) dX4_init_164 ?_
  refine v_putFR hin lf_X4_32 rfl (fun _ => rfl) (fun _ => rfl) (shU_at (rfl : SH 110 = _) (by omega)) dX4_init_165 ?_
  refine u_mem (P := nG 110 8 F4k W4 M0) (hG.mkV (F := F4k) (F4k_ne 7 (by decide)) (fun i hi => (ch9o hi).trans (vz_1 hi)) (ch9 vz_s)) (fun M hG => ?_)
  show vU x Q G cX4_init RX4 (110 + 1 + 8) 8 2476 168 [some (aR (some 110)), none] [] M
  refine v_aload_n 0 dX4_init_168 rfl rfl ?_
  refine v_bipush dX4_init_169 (by decide) ?_
  refine u_newI (rfl : SH (110 + 1 + 8) = _) rfl (by decide) (by omega) (by rw [hxR]; exact Nat.le_of_ble_eq_true rfl) (by rw [hxR]; exact Nat.le_of_ble_eq_true rfl) dX4_init_171 ?_
  refine v_dup dX4_init_173 rfl ?_
  refine v_iconst dX4_init_174 ?_
  refine v_bipush dX4_init_175 (by decide) ?_
  refine u_iast (j := 0) (by omega) (rfl : SH (110 + 1 + 8) = _) (by omega) (by omega) (by omega) dX4_init_177 ?_
  refine v_dup dX4_init_178 rfl ?_
  refine v_iconst dX4_init_179 ?_
  refine v_bipush dX4_init_180 (by decide) ?_
  refine u_iast (j := 1) (by omega) (rfl : SH (110 + 1 + 8) = _) (by omega) (by omega) (by omega) dX4_init_182 ?_
  refine v_dup dX4_init_183 rfl ?_
  refine v_iconst dX4_init_184 ?_
  refine v_bipush dX4_init_185 (by decide) ?_
  refine u_iast (j := 2) (by omega) (rfl : SH (110 + 1 + 8) = _) (by omega) (by omega) (by omega) dX4_init_187 ?_
  refine v_dup dX4_init_188 rfl ?_
  refine v_iconst dX4_init_189 ?_
  refine v_sipush dX4_init_190 (by decide) ?_
  refine u_iast (j := 3) (by omega) (rfl : SH (110 + 1 + 8) = _) (by omega) (by omega) (by omega) dX4_init_193 ?_
  refine v_dup dX4_init_194 rfl ?_
  refine v_iconst dX4_init_195 ?_
  refine v_sipush dX4_init_196 (by decide) ?_
  refine u_iast (j := 4) (by omega) (rfl : SH (110 + 1 + 8) = _) (by omega) (by omega) (by omega) dX4_init_199 ?_
  refine v_dup dX4_init_200 rfl ?_
  refine v_iconst dX4_init_201 ?_
  refine v_sipush dX4_init_202 (by decide) ?_
  refine u_iast (j := 5) (by omega) (rfl : SH (110 + 1 + 8) = _) (by omega) (by omega) (by omega) dX4_init_205 ?_
  refine v_dup dX4_init_206 rfl ?_
  refine v_bipush dX4_init_207 (by decide) ?_
  refine v_bipush dX4_init_209 (by decide) ?_
  refine u_iast (j := 6) (by omega) (rfl : SH (110 + 1 + 8) = _) (by omega) (by omega) (by omega) dX4_init_211 ?_
  refine v_dup dX4_init_212 rfl ?_
  refine v_bipush dX4_init_213 (by decide) ?_
  refine v_iconst dX4_init_215 ?_
  refine u_iast (j := 7) (by omega) (rfl : SH (110 + 1 + 8) = _) (by omega) (by omega) (by omega) dX4_init_216 ?_
  refine v_dup dX4_init_217 rfl ?_
  refine v_bipush dX4_init_218 (by decide) ?_
  refine v_bipush dX4_init_220 (by decide) ?_
  refine u_iast (j := 8) (by omega) (rfl : SH (110 + 1 + 8) = _) (by omega) (by omega) (by omega) dX4_init_222 ?_
  refine v_putFR hin lf_X4_35 rfl (fun _ => rfl) (fun _ => rfl) (shU_at (rfl : SH 110 = _) (by omega)) dX4_init_223 ?_
  refine u_mem (P := nG 110 9 F4k W4 M0) (hG.mkV (F := F4k) (F4k_ne 8 (by decide)) (fun i hi => (ch9o hi).trans (vz_1 hi)) (ch9 vz_s)) (fun M hG => ?_)
  show vU x Q G cX4_init RX4 (110 + 1 + 9) 9 2485 226 [some (aR (some 110)), none] [] M
  refine v_aload_n 0 dX4_init_226 rfl rfl ?_
  refine v_iconst dX4_init_227 ?_
  refine u_newI (rfl : SH (110 + 1 + 9) = _) rfl (by decide) (by omega) (by rw [hxR]; exact Nat.le_of_ble_eq_true rfl) (by rw [hxR]; exact Nat.le_of_ble_eq_true rfl) dX4_init_228 ?_
  refine v_putFR hin lf_X4_38 rfl (fun _ => rfl) (fun _ => rfl) (shU_at (rfl : SH 110 = _) (by omega)) dX4_init_230 ?_
  refine u_mem (P := nG 110 10 F4k W4 M0) (hG.mk (F := F4k) (F4k_ne 9 (by decide)) rfl) (fun M hG => ?_)
  show vU x Q G cX4_init RX4 (110 + 1 + 10) 10 2487 233 [some (aR (some 110)), none] [] M
  refine v_aload_n 0 dX4_init_233 rfl rfl ?_
  refine v_bipush dX4_init_234 (by decide) ?_
  refine u_newI (rfl : SH (110 + 1 + 10) = _) rfl (by decide) (by omega) (by rw [hxR]; exact Nat.le_of_ble_eq_true rfl) (by rw [hxR]; exact Nat.le_of_ble_eq_true rfl) dX4_init_236 ?_
  refine v_putFR hin lf_X4_41 rfl (fun _ => rfl) (fun _ => rfl) (shU_at (rfl : SH 110 = _) (by omega)) dX4_init_238 ?_
  refine u_mem (P := nG 110 11 F4k W4 M0) (hG.mk (F := F4k) (F4k_ne 10 (by decide)) rfl) (fun M hG => ?_)
  show vU x Q G cX4_init RX4 (110 + 1 + 11) 11 2495 241 [some (aR (some 110)), none] [] M
  refine v_aload_n 0 dX4_init_241 rfl rfl ?_
  refine v_iconst dX4_init_242 ?_
  refine u_newI (rfl : SH (110 + 1 + 11) = _) rfl (by decide) (by omega) (by rw [hxR]; exact Nat.le_of_ble_eq_true rfl) (by rw [hxR]; exact Nat.le_of_ble_eq_true rfl) dX4_init_243 ?_
  refine v_putFR hin lf_X4_44 rfl (fun _ => rfl) (fun _ => rfl) (shU_at (rfl : SH 110 = _) (by omega)) dX4_init_245 ?_
  refine u_mem (P := nG 110 12 F4k W4 M0) (hG.mk (F := F4k) (F4k_ne 11 (by decide)) rfl) (fun M hG => ?_)
  show vU x Q G cX4_init RX4 (110 + 1 + 12) 12 2497 248 [some (aR (some 110)), none] [] M
  refine v_aload_n 0 dX4_init_248 rfl rfl ?_
  refine v_iconst dX4_init_249 ?_
  refine u_newI (rfl : SH (110 + 1 + 12) = _) rfl (by decide) (by omega) (by rw [hxR]; exact Nat.le_of_ble_eq_true rfl) (by rw [hxR]; exact Nat.le_of_ble_eq_true rfl) dX4_init_250 ?_
  refine v_putFR hin lf_X4_47 rfl (fun _ => rfl) (fun _ => rfl) (shU_at (rfl : SH 110 = _) (by omega)) dX4_init_252 ?_
  refine u_mem (P := nG 110 13 F4k W4 M0) (hG.mk (F := F4k) (F4k_ne 12 (by decide)) rfl) (fun M hG => ?_)
  show vU x Q G cX4_init RX4 (110 + 1 + 13) 13 2499 255 [some (aR (some 110)), none] [] M
  refine v_aload_n 0 dX4_init_255 rfl rfl ?_
  refine v_sipush dX4_init_256 (by decide) ?_
  refine u_newI (rfl : SH (110 + 1 + 13) = _) rfl (by decide) (by omega) (by rw [hxR]; exact Nat.le_of_ble_eq_true rfl) (by rw [hxR]; exact Nat.le_of_ble_eq_true rfl) dX4_init_259 ?_
  refine v_putFR hin lf_X4_50 rfl (fun _ => rfl) (fun _ => rfl) (shU_at (rfl : SH 110 = _) (by omega)) dX4_init_261 ?_
  refine u_mem (P := nG 110 14 F4k W4 M0) (hG.mk (F := F4k) (F4k_ne 13 (by decide)) rfl) (fun M hG => ?_)
  show vU x Q G cX4_init RX4 (110 + 1 + 14) 14 2691 264 [some (aR (some 110)), none] [] M
  refine v_aload_n 0 dX4_init_264 rfl rfl ?_
  refine v_sipush dX4_init_265 (by decide) ?_
  refine u_newI (rfl : SH (110 + 1 + 14) = _) rfl (by decide) (by omega) (by rw [hxR]; exact Nat.le_of_ble_eq_true rfl) (by rw [hxR]; exact Nat.le_of_ble_eq_true rfl) dX4_init_268 ?_
  refine v_putFR hin lf_X4_53 rfl (fun _ => rfl) (fun _ => rfl) (shU_at (rfl : SH 110 = _) (by omega)) dX4_init_270 ?_
  refine u_mem (P := nG 110 15 F4k W4 M0) (hG.mk (F := F4k) (F4k_ne 14 (by decide)) rfl) (fun M hG => ?_)
  show vU x Q G cX4_init RX4 (110 + 1 + 15) 15 2883 273 [some (aR (some 110)), none] [] M
  refine v_aload_n 0 dX4_init_273 rfl rfl ?_
  refine v_sipush dX4_init_274 (by decide) ?_
  refine u_newZ (rfl : SH (110 + 1 + 15) = _) rfl (by decide) (by omega) (by rw [hxR]; exact Nat.le_of_ble_eq_true rfl) (by rw [hxR]; exact Nat.le_of_ble_eq_true rfl) dX4_init_277 ?_
  refine v_putFR hin lf_X4_56 rfl (fun _ => rfl) (fun _ => rfl) (shU_at (rfl : SH 110 = _) (by omega)) dX4_init_279 ?_
  refine u_mem (P := nG 110 16 F4k W4 M0) (hG.mk (F := F4k) (F4k_ne 15 (by decide)) rfl) (fun M hG => ?_)
  show vU x Q G cX4_init RX4 (110 + 1 + 16) 16 3075 282 [some (aR (some 110)), none] [] M
  refine v_aload_n 0 dX4_init_282 rfl rfl ?_
  refine v_getR lk_X4_7 rfl (shU_at (rfl : SH 110 = _) (by omega)) (hG.2.2 0 (by decide)) dX4_init_283 ?_
  refine v_iconst dX4_init_286 ?_
  refine v_sipush dX4_init_287 (by decide) ?_
  refine u_iast (j := 0) (by omega) (rfl : SH (110 + 1 + 0) = _) (by omega) (by omega) (by omega) dX4_init_290 ?_
  refine u_mem (P := MI (g1 0) M0) (MI.ini hG) (fun M hI => ?_)
  refine v_iconst dX4_init_291 ?_
  refine v_ist1 dX4_init_292 rfl ?_
  have lp293 : ∀ (dd i : Nat) (M : Mem), i + dd = 9 → MI (g1 i) M0 M → vU x Q G cX4_init RX4 (110 + 1 + 16) 16 3075 293 [some (aR (some 110)), some (aI (i : Int))] [] M := by
    intro dd
    induction dd with
    | zero =>
      intro i M hd hI
      obtain rfl : i = 9 := by omega
      rw [g1_9] at hI
      refine v_iload_n 1 dX4_init_293 rfl rfl ?_
      refine v_bipush dX4_init_294 (by decide) ?_
      refine v_icmp_ge 319 dX4_init_296 (by decide) (by omega) (by decide) (fun h296 => ?_) (fun h296 => ?_)
      · skip
        refine v_iconst dX4_init_319 ?_
        refine v_ist1 dX4_init_320 rfl ?_
        have lp321 : ∀ (dd s : Nat) (M : Mem), s + dd = 8 → MI (g2 s) M0 M → vU x Q G cX4_init RX4 (110 + 1 + 16) 16 3075 321 [some (aR (some 110)), some (aI (s : Int))] [] M := by
          intro dd
          induction dd with
          | zero =>
            intro s M hd hI
            obtain rfl : s = 8 := by omega
            rw [g2_8] at hI
            refine v_iload_n 1 dX4_init_321 rfl rfl ?_
            refine v_bipush dX4_init_322 (by decide) ?_
            refine v_icmp_ge 384 dX4_init_324 (by decide) (by omega) (by decide) (fun h324 => ?_) (fun h324 => ?_)
            · skip
              refine v_ret hQ (Nat.le_refl _) (Nat.le_refl _) hlk hrt dX4_init_384 ?_
              exact ⟨rfl, rfl, rfl, by rw [← hM0]; exact hI⟩
            · skip
              exact absurd h324 (by omega)
          | succ dd ih =>
            intro s M hd hI
            refine v_iload_n 1 dX4_init_321 rfl rfl ?_
            refine v_bipush dX4_init_322 (by decide) ?_
            refine v_icmp_ge 384 dX4_init_324 (by decide) (by omega) (by decide) (fun h324 => ?_) (fun h324 => ?_)
            · skip
              exact absurd h324 (by omega)
            · skip
              refine v_aload_n 0 dX4_init_327 rfl rfl ?_
              refine v_getR lk_X4_7 rfl (shU_at (rfl : SH 110 = _) (by omega)) (hI.2.2.1 0 (by decide)) dX4_init_328 ?_
              refine v_bipush dX4_init_331 (by decide) ?_
              refine v_iconst dX4_init_333 ?_
              refine v_iload_n 1 dX4_init_334 rfl rfl ?_
              refine v_imul dX4_init_335 ?_
              refine v_iadd dX4_init_336 ?_
              refine v_iload_n 1 dX4_init_337 rfl rfl ?_
              refine v_iconst dX4_init_338 ?_
              refine v_irem dX4_init_339 (by omega) (by decide) (by omega) ?_
              refine u_eqI (u := ((s % 2 : Nat) : Int)) (md_n s 2) ?_
              refine u_iast (j := 24 + (5 * s)) (by omega) (rfl : SH (110 + 1 + 0) = _) (by omega) (by omega) (by omega) dX4_init_340 ?_
              refine v_aload_n 0 dX4_init_341 rfl rfl ?_
              refine v_getR lk_X4_7 rfl (shU_at (rfl : SH 110 = _) (by omega)) (hI.2.2.1 0 (by decide)) dX4_init_342 ?_
              refine v_bipush dX4_init_345 (by decide) ?_
              refine v_iconst dX4_init_347 ?_
              refine v_iload_n 1 dX4_init_348 rfl rfl ?_
              refine v_imul dX4_init_349 ?_
              refine v_iadd dX4_init_350 ?_
              refine v_iconst dX4_init_351 ?_
              refine v_iadd dX4_init_352 ?_
              refine v_iconst dX4_init_353 ?_
              refine v_iconst dX4_init_354 ?_
              refine v_iload_n 1 dX4_init_355 rfl rfl ?_
              refine v_imul dX4_init_356 ?_
              refine v_iadd dX4_init_357 ?_
              refine u_iast (j := (24 + (5 * s)) + 1) (by omega) (rfl : SH (110 + 1 + 0) = _) (by omega) (by omega) (by omega) dX4_init_358 ?_
              refine v_aload_n 0 dX4_init_359 rfl rfl ?_
              refine v_getR lk_X4_7 rfl (shU_at (rfl : SH 110 = _) (by omega)) (hI.2.2.1 0 (by decide)) dX4_init_360 ?_
              refine v_bipush dX4_init_363 (by decide) ?_
              refine v_iconst dX4_init_365 ?_
              refine v_iload_n 1 dX4_init_366 rfl rfl ?_
              refine v_imul dX4_init_367 ?_
              refine v_iadd dX4_init_368 ?_
              refine v_iconst dX4_init_369 ?_
              refine v_iadd dX4_init_370 ?_
              refine v_bipush dX4_init_371 (by decide) ?_
              refine v_iconst dX4_init_373 ?_
              refine v_iload_n 1 dX4_init_374 rfl rfl ?_
              refine v_imul dX4_init_375 ?_
              refine v_iadd dX4_init_376 ?_
              refine u_iast (j := (24 + (5 * s)) + 2) (by omega) (rfl : SH (110 + 1 + 0) = _) (by omega) (by omega) (by omega) dX4_init_377 ?_
              refine v_iinc1 dX4_init_378 rfl ?_
              refine v_goto 321 dX4_init_381 (by decide) ?_
              exact ih (s + 1) _ (by omega) (hI.st (by omega))
        exact lp321 8 0 M rfl hI
      · skip
        exact absurd h296 (by omega)
    | succ dd ih =>
      intro i M hd hI
      refine v_iload_n 1 dX4_init_293 rfl rfl ?_
      refine v_bipush dX4_init_294 (by decide) ?_
      refine v_icmp_ge 319 dX4_init_296 (by decide) (by omega) (by decide) (fun h296 => ?_) (fun h296 => ?_)
      · skip
        exact absurd h296 (by omega)
      · skip
        refine v_aload_n 0 dX4_init_299 rfl rfl ?_
        refine v_getR lk_X4_7 rfl (shU_at (rfl : SH 110 = _) (by omega)) (hI.2.2.1 0 (by decide)) dX4_init_300 ?_
        refine v_iconst dX4_init_303 ?_
        refine v_iload_n 1 dX4_init_304 rfl rfl ?_
        refine v_iadd dX4_init_305 ?_
        refine v_aload_n 0 dX4_init_306 rfl rfl ?_
        refine v_getR lk_X4_35 rfl (shU_at (rfl : SH 110 = _) (by omega)) (hI.2.2.1 8 (by decide)) dX4_init_307 ?_
        refine v_iload_n 1 dX4_init_310 rfl rfl ?_
        refine u_iald (j := i) (u := (tFs i)) (rfl : SH (110 + 1 + 8) = _) (by omega) (by omega) (by omega) ((congrFun (hI.2.1 119 (by decide) (by decide) (by decide)) i).trans (w9_fs i (by omega))) dX4_init_311 ?_
        refine u_iast (j := 1 + i) (by omega) (rfl : SH (110 + 1 + 0) = _) (by omega) (by omega) (by omega) dX4_init_312 ?_
        refine v_iinc1 dX4_init_313 rfl ?_
        refine v_goto 293 dX4_init_316 (by decide) ?_
        exact ih (i + 1) _ (by omega) (hI.up (fun q => g1_s (by omega) q))
  exact lp293 9 0 M rfl hI
