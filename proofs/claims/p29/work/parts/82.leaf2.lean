/-! ===== booleans made of tests; the law's leaves (by program) ===== -/
section LB
variable {x : vXX} {Q : State → Prop} {G : vGG} {cc : ByteArray} {own : String} {sh : Nat → Option Shp} {n cl sl pc : Nat} {ls : List (Option AV)} {st : List AV} {M : Mem}
theorem v_mne {a b : Int} (d1 : decode cc pc = .ok (.if_icmp .ne 7, 3)) (d2 : decode cc (pc + 3) = .ok (.iconst 1, 1)) (d3 : decode cc (pc + 4) = .ok (.goto 4, 3)) (d4 : decode cc (pc + 7) = .ok (.iconst 0, 1)) (ha : R32 a) (hb : R32 b) (kk : V x Q G cc own sh n cl sl (pc + 8) ls (aI (bP (a = b)) :: st) M) : V x Q G cc own sh n cl sl pc ls (aI b :: aI a :: st) M := by
  refine v_icmp_ne (pc + 7) d1 (by omega) ha hb (fun h => ?_) (fun h => ?_)
  · refine v_iconst d4 ?_
    rw [bP_f (by omega)] at kk
    exact kk
  · refine v_iconst d2 ?_
    refine v_goto (pc + 8) d3 (by omega) ?_
    rw [bP_t (by omega)] at kk
    exact kk
theorem v_mnez {a : Int} (d1 : decode cc pc = .ok (.ifCond .ne 7, 3)) (d2 : decode cc (pc + 3) = .ok (.iconst 1, 1)) (d3 : decode cc (pc + 4) = .ok (.goto 4, 3)) (d4 : decode cc (pc + 7) = .ok (.iconst 0, 1)) (ha : R32 a) (kk : V x Q G cc own sh n cl sl (pc + 8) ls (aI (bP (a = 0)) :: st) M) : V x Q G cc own sh n cl sl pc ls (aI a :: st) M := by
  refine v_if_ne (pc + 7) d1 (by omega) ha (fun h => ?_) (fun h => ?_)
  · refine v_iconst d4 ?_
    rw [bP_f (by omega)] at kk
    exact kk
  · refine v_iconst d2 ?_
    refine v_goto (pc + 8) d3 (by omega) ?_
    rw [bP_t (by omega)] at kk
    exact kk
theorem v_mle {a : Int} (d1 : decode cc pc = .ok (.ifCond .le 7, 3)) (d2 : decode cc (pc + 3) = .ok (.iconst 1, 1)) (d3 : decode cc (pc + 4) = .ok (.goto 4, 3)) (d4 : decode cc (pc + 7) = .ok (.iconst 0, 1)) (ha : R32 a) (kk : V x Q G cc own sh n cl sl (pc + 8) ls (aI (bP (0 < a)) :: st) M) : V x Q G cc own sh n cl sl pc ls (aI a :: st) M := by
  refine v_if_le (pc + 7) d1 (by omega) ha (fun h => ?_) (fun h => ?_)
  · refine v_iconst d4 ?_
    rw [bP_f (by omega)] at kk
    exact kk
  · refine v_iconst d2 ?_
    refine v_goto (pc + 8) d3 (by omega) ?_
    rw [bP_t (by omega)] at kk
    exact kk
theorem v_mcle {a b : Int} (d1 : decode cc pc = .ok (.if_icmp .le 7, 3)) (d2 : decode cc (pc + 3) = .ok (.iconst 1, 1)) (d3 : decode cc (pc + 4) = .ok (.goto 4, 3)) (d4 : decode cc (pc + 7) = .ok (.iconst 0, 1)) (ha : R32 a) (hb : R32 b) (kk : V x Q G cc own sh n cl sl (pc + 8) ls (aI (bP (b < a)) :: st) M) : V x Q G cc own sh n cl sl pc ls (aI b :: aI a :: st) M := by
  refine v_icmp_le (pc + 7) d1 (by omega) ha hb (fun h => ?_) (fun h => ?_)
  · refine v_iconst d4 ?_
    rw [bP_f (by omega)] at kk
    exact kk
  · refine v_iconst d2 ?_
    refine v_goto (pc + 8) d3 (by omega) ?_
    rw [bP_t (by omega)] at kk
    exact kk
end LB
theorem low_lt {k : Nat} (h : k < 9) : 0 ≤ tLo k ∧ tLo k ≤ 1000 ∧ tLo k < tHi k ∧ tHi k ≤ 20000 := by
  rcases (show k = 0 ∨ k = 1 ∨ k = 2 ∨ k = 3 ∨ k = 4 ∨ k = 5 ∨ k = 6 ∨ k = 7 ∨ k = 8 by omega) with rfl | rfl | rfl | rfl | rfl | rfl | rfl | rfl | rfl <;> decide
set_option maxRecDepth 100000 in
set_option maxHeartbeats 400000 in
theorem c_L_low {l : Launch} {G : vGG} {M : Mem} {k : Nat} (hk : k < 9) : Cv l yL_low cL_low 1 (some .int) (rmo 0 0) G [aI (k : Int)] M (some (aI (tLo k))) M := by
  refine Co.ofV (plainFor_of_name (by decide)) rfl rfl ?_
  intro x hxl hxR hlk hrt Q hQ
  show vO x Q G cL_low RL 0 [some (aI (k : Int))] [] M
  rcases (show k = 0 ∨ k = 1 ∨ k = 2 ∨ k = 3 ∨ k = 4 ∨ k = 5 ∨ k = 6 ∨ k = 7 ∨ k = 8 by omega) with rfl | rfl | rfl | rfl | rfl | rfl | rfl | rfl | rfl
  · skip
    refine v_iload_n 0 dL_low_0 rfl rfl ?_
    refine v_if_ne 9 dL_low_1 (by decide) (by decide) (fun h1 => ?_) (fun h1 => ?_)
    · skip
      exact absurd h1 (by decide)
    · skip
      refine v_bipush dL_low_4 (by decide) ?_
      refine v_goto 52 dL_low_6 (by decide) ?_
      refine o_iret hQ hlk hrt dL_low_52 ?_
      exact ⟨rfl, rfl⟩
  · skip
    refine v_iload_n 0 dL_low_0 rfl rfl ?_
    refine v_if_ne 9 dL_low_1 (by decide) (by decide) (fun h1 => ?_) (fun h1 => ?_)
    · skip
      refine v_iload_n 0 dL_low_9 rfl rfl ?_
      refine v_iconst dL_low_10 ?_
      refine v_icmp_ne 19 dL_low_11 (by decide) (by decide) (by decide) (fun h11 => ?_) (fun h11 => ?_)
      · skip
        refine v_iload_n 0 dL_low_19 rfl rfl ?_
        refine v_iconst dL_low_20 ?_
        refine v_icmp_ne 30 dL_low_21 (by decide) (by decide) (by decide) (fun h21 => ?_) (fun h21 => ?_)
        · skip
          refine v_iload_n 0 dL_low_30 rfl rfl ?_
          refine v_bipush dL_low_31 (by decide) ?_
          refine v_icmp_ne 41 dL_low_33 (by decide) (by decide) (by decide) (fun h33 => ?_) (fun h33 => ?_)
          · skip
            refine v_iload_n 0 dL_low_41 rfl rfl ?_
            refine v_bipush dL_low_42 (by decide) ?_
            refine v_icmp_ne 51 dL_low_44 (by decide) (by decide) (by decide) (fun h44 => ?_) (fun h44 => ?_)
            · skip
              refine v_iconst dL_low_51 ?_
              refine o_iret hQ hlk hrt dL_low_52 ?_
              exact ⟨rfl, rfl⟩
            · skip
              exact absurd h44 (by decide)
          · skip
            exact absurd h33 (by decide)
        · skip
          exact absurd h21 (by decide)
      · skip
        exact absurd h11 (by decide)
    · skip
      exact absurd h1 (by decide)
  · skip
    refine v_iload_n 0 dL_low_0 rfl rfl ?_
    refine v_if_ne 9 dL_low_1 (by decide) (by decide) (fun h1 => ?_) (fun h1 => ?_)
    · skip
      refine v_iload_n 0 dL_low_9 rfl rfl ?_
      refine v_iconst dL_low_10 ?_
      refine v_icmp_ne 19 dL_low_11 (by decide) (by decide) (by decide) (fun h11 => ?_) (fun h11 => ?_)
      · skip
        refine v_iload_n 0 dL_low_19 rfl rfl ?_
        refine v_iconst dL_low_20 ?_
        refine v_icmp_ne 30 dL_low_21 (by decide) (by decide) (by decide) (fun h21 => ?_) (fun h21 => ?_)
        · skip
          refine v_iload_n 0 dL_low_30 rfl rfl ?_
          refine v_bipush dL_low_31 (by decide) ?_
          refine v_icmp_ne 41 dL_low_33 (by decide) (by decide) (by decide) (fun h33 => ?_) (fun h33 => ?_)
          · skip
            refine v_iload_n 0 dL_low_41 rfl rfl ?_
            refine v_bipush dL_low_42 (by decide) ?_
            refine v_icmp_ne 51 dL_low_44 (by decide) (by decide) (by decide) (fun h44 => ?_) (fun h44 => ?_)
            · skip
              refine v_iconst dL_low_51 ?_
              refine o_iret hQ hlk hrt dL_low_52 ?_
              exact ⟨rfl, rfl⟩
            · skip
              exact absurd h44 (by decide)
          · skip
            exact absurd h33 (by decide)
        · skip
          exact absurd h21 (by decide)
      · skip
        exact absurd h11 (by decide)
    · skip
      exact absurd h1 (by decide)
  · skip
    refine v_iload_n 0 dL_low_0 rfl rfl ?_
    refine v_if_ne 9 dL_low_1 (by decide) (by decide) (fun h1 => ?_) (fun h1 => ?_)
    · skip
      refine v_iload_n 0 dL_low_9 rfl rfl ?_
      refine v_iconst dL_low_10 ?_
      refine v_icmp_ne 19 dL_low_11 (by decide) (by decide) (by decide) (fun h11 => ?_) (fun h11 => ?_)
      · skip
        exact absurd h11 (by decide)
      · skip
        refine v_bipush dL_low_14 (by decide) ?_
        refine v_goto 52 dL_low_16 (by decide) ?_
        refine o_iret hQ hlk hrt dL_low_52 ?_
        exact ⟨rfl, rfl⟩
    · skip
      exact absurd h1 (by decide)
  · skip
    refine v_iload_n 0 dL_low_0 rfl rfl ?_
    refine v_if_ne 9 dL_low_1 (by decide) (by decide) (fun h1 => ?_) (fun h1 => ?_)
    · skip
      refine v_iload_n 0 dL_low_9 rfl rfl ?_
      refine v_iconst dL_low_10 ?_
      refine v_icmp_ne 19 dL_low_11 (by decide) (by decide) (by decide) (fun h11 => ?_) (fun h11 => ?_)
      · skip
        refine v_iload_n 0 dL_low_19 rfl rfl ?_
        refine v_iconst dL_low_20 ?_
        refine v_icmp_ne 30 dL_low_21 (by decide) (by decide) (by decide) (fun h21 => ?_) (fun h21 => ?_)
        · skip
          exact absurd h21 (by decide)
        · skip
          refine v_sipush dL_low_24 (by decide) ?_
          refine v_goto 52 dL_low_27 (by decide) ?_
          refine o_iret hQ hlk hrt dL_low_52 ?_
          exact ⟨rfl, rfl⟩
      · skip
        exact absurd h11 (by decide)
    · skip
      exact absurd h1 (by decide)
  · skip
    refine v_iload_n 0 dL_low_0 rfl rfl ?_
    refine v_if_ne 9 dL_low_1 (by decide) (by decide) (fun h1 => ?_) (fun h1 => ?_)
    · skip
      refine v_iload_n 0 dL_low_9 rfl rfl ?_
      refine v_iconst dL_low_10 ?_
      refine v_icmp_ne 19 dL_low_11 (by decide) (by decide) (by decide) (fun h11 => ?_) (fun h11 => ?_)
      · skip
        refine v_iload_n 0 dL_low_19 rfl rfl ?_
        refine v_iconst dL_low_20 ?_
        refine v_icmp_ne 30 dL_low_21 (by decide) (by decide) (by decide) (fun h21 => ?_) (fun h21 => ?_)
        · skip
          refine v_iload_n 0 dL_low_30 rfl rfl ?_
          refine v_bipush dL_low_31 (by decide) ?_
          refine v_icmp_ne 41 dL_low_33 (by decide) (by decide) (by decide) (fun h33 => ?_) (fun h33 => ?_)
          · skip
            refine v_iload_n 0 dL_low_41 rfl rfl ?_
            refine v_bipush dL_low_42 (by decide) ?_
            refine v_icmp_ne 51 dL_low_44 (by decide) (by decide) (by decide) (fun h44 => ?_) (fun h44 => ?_)
            · skip
              refine v_iconst dL_low_51 ?_
              refine o_iret hQ hlk hrt dL_low_52 ?_
              exact ⟨rfl, rfl⟩
            · skip
              exact absurd h44 (by decide)
          · skip
            exact absurd h33 (by decide)
        · skip
          exact absurd h21 (by decide)
      · skip
        exact absurd h11 (by decide)
    · skip
      exact absurd h1 (by decide)
  · skip
    refine v_iload_n 0 dL_low_0 rfl rfl ?_
    refine v_if_ne 9 dL_low_1 (by decide) (by decide) (fun h1 => ?_) (fun h1 => ?_)
    · skip
      refine v_iload_n 0 dL_low_9 rfl rfl ?_
      refine v_iconst dL_low_10 ?_
      refine v_icmp_ne 19 dL_low_11 (by decide) (by decide) (by decide) (fun h11 => ?_) (fun h11 => ?_)
      · skip
        refine v_iload_n 0 dL_low_19 rfl rfl ?_
        refine v_iconst dL_low_20 ?_
        refine v_icmp_ne 30 dL_low_21 (by decide) (by decide) (by decide) (fun h21 => ?_) (fun h21 => ?_)
        · skip
          refine v_iload_n 0 dL_low_30 rfl rfl ?_
          refine v_bipush dL_low_31 (by decide) ?_
          refine v_icmp_ne 41 dL_low_33 (by decide) (by decide) (by decide) (fun h33 => ?_) (fun h33 => ?_)
          · skip
            exact absurd h33 (by decide)
          · skip
            refine v_bipush dL_low_36 (by decide) ?_
            refine v_goto 52 dL_low_38 (by decide) ?_
            refine o_iret hQ hlk hrt dL_low_52 ?_
            exact ⟨rfl, rfl⟩
        · skip
          exact absurd h21 (by decide)
      · skip
        exact absurd h11 (by decide)
    · skip
      exact absurd h1 (by decide)
  · skip
    refine v_iload_n 0 dL_low_0 rfl rfl ?_
    refine v_if_ne 9 dL_low_1 (by decide) (by decide) (fun h1 => ?_) (fun h1 => ?_)
    · skip
      refine v_iload_n 0 dL_low_9 rfl rfl ?_
      refine v_iconst dL_low_10 ?_
      refine v_icmp_ne 19 dL_low_11 (by decide) (by decide) (by decide) (fun h11 => ?_) (fun h11 => ?_)
      · skip
        refine v_iload_n 0 dL_low_19 rfl rfl ?_
        refine v_iconst dL_low_20 ?_
        refine v_icmp_ne 30 dL_low_21 (by decide) (by decide) (by decide) (fun h21 => ?_) (fun h21 => ?_)
        · skip
          refine v_iload_n 0 dL_low_30 rfl rfl ?_
          refine v_bipush dL_low_31 (by decide) ?_
          refine v_icmp_ne 41 dL_low_33 (by decide) (by decide) (by decide) (fun h33 => ?_) (fun h33 => ?_)
          · skip
            refine v_iload_n 0 dL_low_41 rfl rfl ?_
            refine v_bipush dL_low_42 (by decide) ?_
            refine v_icmp_ne 51 dL_low_44 (by decide) (by decide) (by decide) (fun h44 => ?_) (fun h44 => ?_)
            · skip
              exact absurd h44 (by decide)
            · skip
              refine v_iconst dL_low_47 ?_
              refine v_goto 52 dL_low_48 (by decide) ?_
              refine o_iret hQ hlk hrt dL_low_52 ?_
              exact ⟨rfl, rfl⟩
          · skip
            exact absurd h33 (by decide)
        · skip
          exact absurd h21 (by decide)
      · skip
        exact absurd h11 (by decide)
    · skip
      exact absurd h1 (by decide)
  · skip
    refine v_iload_n 0 dL_low_0 rfl rfl ?_
    refine v_if_ne 9 dL_low_1 (by decide) (by decide) (fun h1 => ?_) (fun h1 => ?_)
    · skip
      refine v_iload_n 0 dL_low_9 rfl rfl ?_
      refine v_iconst dL_low_10 ?_
      refine v_icmp_ne 19 dL_low_11 (by decide) (by decide) (by decide) (fun h11 => ?_) (fun h11 => ?_)
      · skip
        refine v_iload_n 0 dL_low_19 rfl rfl ?_
        refine v_iconst dL_low_20 ?_
        refine v_icmp_ne 30 dL_low_21 (by decide) (by decide) (by decide) (fun h21 => ?_) (fun h21 => ?_)
        · skip
          refine v_iload_n 0 dL_low_30 rfl rfl ?_
          refine v_bipush dL_low_31 (by decide) ?_
          refine v_icmp_ne 41 dL_low_33 (by decide) (by decide) (by decide) (fun h33 => ?_) (fun h33 => ?_)
          · skip
            refine v_iload_n 0 dL_low_41 rfl rfl ?_
            refine v_bipush dL_low_42 (by decide) ?_
            refine v_icmp_ne 51 dL_low_44 (by decide) (by decide) (by decide) (fun h44 => ?_) (fun h44 => ?_)
            · skip
              refine v_iconst dL_low_51 ?_
              refine o_iret hQ hlk hrt dL_low_52 ?_
              exact ⟨rfl, rfl⟩
            · skip
              exact absurd h44 (by decide)
          · skip
            exact absurd h33 (by decide)
        · skip
          exact absurd h21 (by decide)
      · skip
        exact absurd h11 (by decide)
    · skip
      exact absurd h1 (by decide)
set_option maxRecDepth 100000 in
set_option maxHeartbeats 400000 in
theorem c_L_high {l : Launch} {G : vGG} {M : Mem} {k : Nat} (hk : k < 9) : Cv l yL_high cL_high 1 (some .int) (rmo 0 0) G [aI (k : Int)] M (some (aI (tHi k))) M := by
  refine Co.ofV (plainFor_of_name (by decide)) rfl rfl ?_
  intro x hxl hxR hlk hrt Q hQ
  show vO x Q G cL_high RL 0 [some (aI (k : Int))] [] M
  rcases (show k = 0 ∨ k = 1 ∨ k = 2 ∨ k = 3 ∨ k = 4 ∨ k = 5 ∨ k = 6 ∨ k = 7 ∨ k = 8 by omega) with rfl | rfl | rfl | rfl | rfl | rfl | rfl | rfl | rfl
  · skip
    refine v_iload_n 0 dL_high_0 rfl rfl ?_
    refine v_if_ne 10 dL_high_1 (by decide) (by decide) (fun h1 => ?_) (fun h1 => ?_)
    · skip
      exact absurd h1 (by decide)
    · skip
      refine v_sipush dL_high_4 (by decide) ?_
      refine v_goto 68 dL_high_7 (by decide) ?_
      refine o_iret hQ hlk hrt dL_high_68 ?_
      exact ⟨rfl, rfl⟩
  · skip
    refine v_iload_n 0 dL_high_0 rfl rfl ?_
    refine v_if_ne 10 dL_high_1 (by decide) (by decide) (fun h1 => ?_) (fun h1 => ?_)
    · skip
      refine v_iload_n 0 dL_high_10 rfl rfl ?_
      refine v_iconst dL_high_11 ?_
      refine v_icmp_ge 20 dL_high_12 (by decide) (by decide) (by decide) (fun h12 => ?_) (fun h12 => ?_)
      · skip
        exact absurd h12 (by decide)
      · skip
        refine v_bipush dL_high_15 (by decide) ?_
        refine v_goto 68 dL_high_17 (by decide) ?_
        refine o_iret hQ hlk hrt dL_high_68 ?_
        exact ⟨rfl, rfl⟩
    · skip
      exact absurd h1 (by decide)
  · skip
    refine v_iload_n 0 dL_high_0 rfl rfl ?_
    refine v_if_ne 10 dL_high_1 (by decide) (by decide) (fun h1 => ?_) (fun h1 => ?_)
    · skip
      refine v_iload_n 0 dL_high_10 rfl rfl ?_
      refine v_iconst dL_high_11 ?_
      refine v_icmp_ge 20 dL_high_12 (by decide) (by decide) (by decide) (fun h12 => ?_) (fun h12 => ?_)
      · skip
        exact absurd h12 (by decide)
      · skip
        refine v_bipush dL_high_15 (by decide) ?_
        refine v_goto 68 dL_high_17 (by decide) ?_
        refine o_iret hQ hlk hrt dL_high_68 ?_
        exact ⟨rfl, rfl⟩
    · skip
      exact absurd h1 (by decide)
  · skip
    refine v_iload_n 0 dL_high_0 rfl rfl ?_
    refine v_if_ne 10 dL_high_1 (by decide) (by decide) (fun h1 => ?_) (fun h1 => ?_)
    · skip
      refine v_iload_n 0 dL_high_10 rfl rfl ?_
      refine v_iconst dL_high_11 ?_
      refine v_icmp_ge 20 dL_high_12 (by decide) (by decide) (by decide) (fun h12 => ?_) (fun h12 => ?_)
      · skip
        refine v_iload_n 0 dL_high_20 rfl rfl ?_
        refine v_iconst dL_high_21 ?_
        refine v_icmp_ne 31 dL_high_22 (by decide) (by decide) (by decide) (fun h22 => ?_) (fun h22 => ?_)
        · skip
          exact absurd h22 (by decide)
        · skip
          refine v_sipush dL_high_25 (by decide) ?_
          refine v_goto 68 dL_high_28 (by decide) ?_
          refine o_iret hQ hlk hrt dL_high_68 ?_
          exact ⟨rfl, rfl⟩
      · skip
        exact absurd h12 (by decide)
    · skip
      exact absurd h1 (by decide)
  · skip
    refine v_iload_n 0 dL_high_0 rfl rfl ?_
    refine v_if_ne 10 dL_high_1 (by decide) (by decide) (fun h1 => ?_) (fun h1 => ?_)
    · skip
      refine v_iload_n 0 dL_high_10 rfl rfl ?_
      refine v_iconst dL_high_11 ?_
      refine v_icmp_ge 20 dL_high_12 (by decide) (by decide) (by decide) (fun h12 => ?_) (fun h12 => ?_)
      · skip
        refine v_iload_n 0 dL_high_20 rfl rfl ?_
        refine v_iconst dL_high_21 ?_
        refine v_icmp_ne 31 dL_high_22 (by decide) (by decide) (by decide) (fun h22 => ?_) (fun h22 => ?_)
        · skip
          refine v_iload_n 0 dL_high_31 rfl rfl ?_
          refine v_bipush dL_high_32 (by decide) ?_
          refine v_icmp_ge 43 dL_high_34 (by decide) (by decide) (by decide) (fun h34 => ?_) (fun h34 => ?_)
          · skip
            exact absurd h34 (by decide)
          · skip
            refine v_sipush dL_high_37 (by decide) ?_
            refine v_goto 68 dL_high_40 (by decide) ?_
            refine o_iret hQ hlk hrt dL_high_68 ?_
            exact ⟨rfl, rfl⟩
        · skip
          exact absurd h22 (by decide)
      · skip
        exact absurd h12 (by decide)
    · skip
      exact absurd h1 (by decide)
  · skip
    refine v_iload_n 0 dL_high_0 rfl rfl ?_
    refine v_if_ne 10 dL_high_1 (by decide) (by decide) (fun h1 => ?_) (fun h1 => ?_)
    · skip
      refine v_iload_n 0 dL_high_10 rfl rfl ?_
      refine v_iconst dL_high_11 ?_
      refine v_icmp_ge 20 dL_high_12 (by decide) (by decide) (by decide) (fun h12 => ?_) (fun h12 => ?_)
      · skip
        refine v_iload_n 0 dL_high_20 rfl rfl ?_
        refine v_iconst dL_high_21 ?_
        refine v_icmp_ne 31 dL_high_22 (by decide) (by decide) (by decide) (fun h22 => ?_) (fun h22 => ?_)
        · skip
          refine v_iload_n 0 dL_high_31 rfl rfl ?_
          refine v_bipush dL_high_32 (by decide) ?_
          refine v_icmp_ge 43 dL_high_34 (by decide) (by decide) (by decide) (fun h34 => ?_) (fun h34 => ?_)
          · skip
            exact absurd h34 (by decide)
          · skip
            refine v_sipush dL_high_37 (by decide) ?_
            refine v_goto 68 dL_high_40 (by decide) ?_
            refine o_iret hQ hlk hrt dL_high_68 ?_
            exact ⟨rfl, rfl⟩
        · skip
          exact absurd h22 (by decide)
      · skip
        exact absurd h12 (by decide)
    · skip
      exact absurd h1 (by decide)
  · skip
    refine v_iload_n 0 dL_high_0 rfl rfl ?_
    refine v_if_ne 10 dL_high_1 (by decide) (by decide) (fun h1 => ?_) (fun h1 => ?_)
    · skip
      refine v_iload_n 0 dL_high_10 rfl rfl ?_
      refine v_iconst dL_high_11 ?_
      refine v_icmp_ge 20 dL_high_12 (by decide) (by decide) (by decide) (fun h12 => ?_) (fun h12 => ?_)
      · skip
        refine v_iload_n 0 dL_high_20 rfl rfl ?_
        refine v_iconst dL_high_21 ?_
        refine v_icmp_ne 31 dL_high_22 (by decide) (by decide) (by decide) (fun h22 => ?_) (fun h22 => ?_)
        · skip
          refine v_iload_n 0 dL_high_31 rfl rfl ?_
          refine v_bipush dL_high_32 (by decide) ?_
          refine v_icmp_ge 43 dL_high_34 (by decide) (by decide) (by decide) (fun h34 => ?_) (fun h34 => ?_)
          · skip
            refine v_iload_n 0 dL_high_43 rfl rfl ?_
            refine v_bipush dL_high_44 (by decide) ?_
            refine v_icmp_ne 55 dL_high_46 (by decide) (by decide) (by decide) (fun h46 => ?_) (fun h46 => ?_)
            · skip
              exact absurd h46 (by decide)
            · skip
              refine v_sipush dL_high_49 (by decide) ?_
              refine v_goto 68 dL_high_52 (by decide) ?_
              refine o_iret hQ hlk hrt dL_high_68 ?_
              exact ⟨rfl, rfl⟩
          · skip
            exact absurd h34 (by decide)
        · skip
          exact absurd h22 (by decide)
      · skip
        exact absurd h12 (by decide)
    · skip
      exact absurd h1 (by decide)
  · skip
    refine v_iload_n 0 dL_high_0 rfl rfl ?_
    refine v_if_ne 10 dL_high_1 (by decide) (by decide) (fun h1 => ?_) (fun h1 => ?_)
    · skip
      refine v_iload_n 0 dL_high_10 rfl rfl ?_
      refine v_iconst dL_high_11 ?_
      refine v_icmp_ge 20 dL_high_12 (by decide) (by decide) (by decide) (fun h12 => ?_) (fun h12 => ?_)
      · skip
        refine v_iload_n 0 dL_high_20 rfl rfl ?_
        refine v_iconst dL_high_21 ?_
        refine v_icmp_ne 31 dL_high_22 (by decide) (by decide) (by decide) (fun h22 => ?_) (fun h22 => ?_)
        · skip
          refine v_iload_n 0 dL_high_31 rfl rfl ?_
          refine v_bipush dL_high_32 (by decide) ?_
          refine v_icmp_ge 43 dL_high_34 (by decide) (by decide) (by decide) (fun h34 => ?_) (fun h34 => ?_)
          · skip
            refine v_iload_n 0 dL_high_43 rfl rfl ?_
            refine v_bipush dL_high_44 (by decide) ?_
            refine v_icmp_ne 55 dL_high_46 (by decide) (by decide) (by decide) (fun h46 => ?_) (fun h46 => ?_)
            · skip
              refine v_iload_n 0 dL_high_55 rfl rfl ?_
              refine v_bipush dL_high_56 (by decide) ?_
              refine v_icmp_ne 66 dL_high_58 (by decide) (by decide) (by decide) (fun h58 => ?_) (fun h58 => ?_)
              · skip
                exact absurd h58 (by decide)
              · skip
                refine v_bipush dL_high_61 (by decide) ?_
                refine v_goto 68 dL_high_63 (by decide) ?_
                refine o_iret hQ hlk hrt dL_high_68 ?_
                exact ⟨rfl, rfl⟩
            · skip
              exact absurd h46 (by decide)
          · skip
            exact absurd h34 (by decide)
        · skip
          exact absurd h22 (by decide)
      · skip
        exact absurd h12 (by decide)
    · skip
      exact absurd h1 (by decide)
  · skip
    refine v_iload_n 0 dL_high_0 rfl rfl ?_
    refine v_if_ne 10 dL_high_1 (by decide) (by decide) (fun h1 => ?_) (fun h1 => ?_)
    · skip
      refine v_iload_n 0 dL_high_10 rfl rfl ?_
      refine v_iconst dL_high_11 ?_
      refine v_icmp_ge 20 dL_high_12 (by decide) (by decide) (by decide) (fun h12 => ?_) (fun h12 => ?_)
      · skip
        refine v_iload_n 0 dL_high_20 rfl rfl ?_
        refine v_iconst dL_high_21 ?_
        refine v_icmp_ne 31 dL_high_22 (by decide) (by decide) (by decide) (fun h22 => ?_) (fun h22 => ?_)
        · skip
          refine v_iload_n 0 dL_high_31 rfl rfl ?_
          refine v_bipush dL_high_32 (by decide) ?_
          refine v_icmp_ge 43 dL_high_34 (by decide) (by decide) (by decide) (fun h34 => ?_) (fun h34 => ?_)
          · skip
            refine v_iload_n 0 dL_high_43 rfl rfl ?_
            refine v_bipush dL_high_44 (by decide) ?_
            refine v_icmp_ne 55 dL_high_46 (by decide) (by decide) (by decide) (fun h46 => ?_) (fun h46 => ?_)
            · skip
              refine v_iload_n 0 dL_high_55 rfl rfl ?_
              refine v_bipush dL_high_56 (by decide) ?_
              refine v_icmp_ne 66 dL_high_58 (by decide) (by decide) (by decide) (fun h58 => ?_) (fun h58 => ?_)
              · skip
                refine v_bipush dL_high_66 (by decide) ?_
                refine o_iret hQ hlk hrt dL_high_68 ?_
                exact ⟨rfl, rfl⟩
              · skip
                exact absurd h58 (by decide)
            · skip
              exact absurd h46 (by decide)
          · skip
            exact absurd h34 (by decide)
        · skip
          exact absurd h22 (by decide)
      · skip
        exact absurd h12 (by decide)
    · skip
      exact absurd h1 (by decide)
theorem bits_s {z k : Nat} (hz : z < 16777216) (hk : k < 24) : (((List.range k).countP (fun i => z.testBit i) : Nat) : Int) + vand (vshr (z : Int) (k : Int)) 1 = (((List.range (k + 1)).countP (fun i => z.testBit i) : Nat) : Int) := by
  rw [nu_bitN (by omega) (by omega), List.range_succ, List.countP_append, List.countP_cons, List.countP_nil]
  by_cases h : z.testBit k = true
  · rw [bP_t h, if_pos h]; omega
  · rw [bP_f h, if_neg h]; omega
theorem bits_le (z k : Nat) : (List.range k).countP (fun i => z.testBit i) ≤ k := by
  have := List.countP_le_length (p := fun i => z.testBit i) (l := List.range k)
  rwa [List.length_range] at this
set_option maxRecDepth 100000 in
set_option maxHeartbeats 400000 in
theorem c_L_bits {l : Launch} {G : vGG} {M : Mem} {z : Nat} (hz : z < 16777216) : Cv l yL_bits cL_bits 3 (some .int) (rmo 0 0) G [aI (z : Int)] M (some (aI ((pc z : Nat) : Int))) M := by
  refine Co.ofV (plainFor_of_name (by decide)) rfl rfl ?_
  intro x hxl hxR hlk hrt Q hQ
  show vO x Q G cL_bits RL 0 [some (aI (z : Int)), none, none] [] M
  refine v_iconst dL_bits_0 ?_
  refine v_ist1 dL_bits_1 rfl ?_
  refine v_iconst dL_bits_2 ?_
  refine v_ist2 dL_bits_3 rfl ?_
  have lp4 : ∀ (dd k : Nat), k + dd = 24 → vO x Q G cL_bits RL 4 [some (aI (z : Int)), some (aI (((List.range k).countP (fun i => z.testBit i) : Nat) : Int)), some (aI (k : Int))] [] M := by
    intro dd
    induction dd with
    | zero =>
      intro k hd
      obtain rfl : k = 24 := by omega
      refine v_iload_n 2 dL_bits_4 rfl rfl ?_
      refine v_bipush dL_bits_5 (by decide) ?_
      refine v_icmp_ge 24 dL_bits_7 (by decide) (by omega) (by decide) (fun h7 => ?_) (fun h7 => ?_)
      · skip
        refine v_iload_n 1 dL_bits_24 rfl rfl ?_
        refine o_iret hQ hlk hrt dL_bits_25 ?_
        exact ⟨by rw [pc, pcf_bits], rfl⟩
      · skip
        exact absurd h7 (by omega)
    | succ dd ih =>
      intro k hd
      refine v_iload_n 2 dL_bits_4 rfl rfl ?_
      refine v_bipush dL_bits_5 (by decide) ?_
      refine v_icmp_ge 24 dL_bits_7 (by decide) (by omega) (by decide) (fun h7 => ?_) (fun h7 => ?_)
      · skip
        exact absurd h7 (by omega)
      · skip
        refine v_iload_n 1 dL_bits_10 rfl rfl ?_
        refine v_iload_n 0 dL_bits_11 rfl rfl ?_
        refine v_iload_n 2 dL_bits_12 rfl rfl ?_
        refine v_ishr dL_bits_13 ?_
        refine v_iconst dL_bits_14 ?_
        refine v_iand dL_bits_15 ?_
        refine v_iadd dL_bits_16 ?_
        refine o_eqI (bits_s hz (by omega)) ?_
        refine v_ist1 dL_bits_17 rfl ?_
        refine v_iinc2 dL_bits_18 rfl ?_
        refine v_goto 4 dL_bits_21 (by decide) ?_
        exact ih (k + 1) (by omega)
  exact lp4 24 0 rfl
theorem sDr_nn {v : Sg} (hI : sInv v) {s : Nat} (hs : s < 8) : ((sDr v s : Nat) : Int) + vshl (v (24 + 5 * s + 3)) (s : Int) = ((sDr v (s + 1) : Nat) : Int) := by
  have h := (iv_st hI hs).2.2.2.1
  have hp : 2 ^ s ≤ 128 := Nat.pow_le_pow_right (n := 2) (by decide) (show s ≤ 7 by omega)
  rw [nu_shl h.1 (by omega) (by
    have : (v (24 + 5 * s + 3)).toNat ≤ 1 := by omega
    have := Nat.mul_le_mul this hp
    omega), sDr]
  omega
set_option maxRecDepth 100000 in
set_option maxHeartbeats 400000 in
theorem c_L_drawn {l : Launch} {G : vGG} {M : Mem} {v : Sg} (hI : sInv v) (hw : ∀ s, s < 8 → M.1 110 (5 * s + 3) = v (24 + 5 * s + 3)) : Cv l yL_drawn cL_drawn 3 (some .int) (rmo 0 0) G [aR (some 110)] M (some (aI ((sDrw v : Nat) : Int))) M := by
  refine Co.ofV (plainFor_of_name (by decide)) rfl rfl ?_
  intro x hxl hxR hlk hrt Q hQ
  show vO x Q G cL_drawn RL 0 [some (aR (some 110)), none, none] [] M
  refine v_iconst dL_drawn_0 ?_
  refine v_ist1 dL_drawn_1 rfl ?_
  refine v_iconst dL_drawn_2 ?_
  refine v_ist2 dL_drawn_3 rfl ?_
  have lp4 : ∀ (dd s : Nat), s + dd = 8 → vO x Q G cL_drawn RL 4 [some (aR (some 110)), some (aI ((sDr v s : Nat) : Int)), some (aI (s : Int))] [] M := by
    intro dd
    induction dd with
    | zero =>
      intro s hd
      obtain rfl : s = 8 := by omega
      refine v_iload_n 2 dL_drawn_4 rfl rfl ?_
      refine v_bipush dL_drawn_5 (by decide) ?_
      refine v_icmp_ge 28 dL_drawn_7 (by decide) (by omega) (by decide) (fun h7 => ?_) (fun h7 => ?_)
      · skip
        refine v_iload_n 1 dL_drawn_28 rfl rfl ?_
        refine o_iret hQ hlk hrt dL_drawn_29 ?_
        exact ⟨rfl, rfl⟩
      · skip
        exact absurd h7 (by omega)
    | succ dd ih =>
      intro s hd
      refine v_iload_n 2 dL_drawn_4 rfl rfl ?_
      refine v_bipush dL_drawn_5 (by decide) ?_
      refine v_icmp_ge 28 dL_drawn_7 (by decide) (by omega) (by decide) (fun h7 => ?_) (fun h7 => ?_)
      · skip
        exact absurd h7 (by omega)
      · skip
        refine v_iload_n 1 dL_drawn_10 rfl rfl ?_
        refine v_aload_n 0 dL_drawn_11 rfl rfl ?_
        refine v_iconst dL_drawn_12 ?_
        refine v_iload_n 2 dL_drawn_13 rfl rfl ?_
        refine v_imul dL_drawn_14 ?_
        refine v_iconst dL_drawn_15 ?_
        refine v_iadd dL_drawn_16 ?_
        refine o_iald (j := (5 * s) + 3) (u := v (24 + 5 * s + 3)) (rfl : SH 110 = _) (by omega) (by omega) (hw s (by omega)) dL_drawn_17 ?_
        refine v_iload_n 2 dL_drawn_18 rfl rfl ?_
        refine v_ishl dL_drawn_19 ?_
        refine v_iadd dL_drawn_20 ?_
        refine o_eqI (sDr_nn hI (by omega)) ?_
        refine v_ist1 dL_drawn_21 rfl ?_
        refine v_iinc2 dL_drawn_22 rfl ?_
        refine v_goto 4 dL_drawn_25 (by decide) ?_
        exact ih (s + 1) (by omega)
  exact lp4 8 0 rfl
def LW (v : Sg) (M : Mem) : Prop := (∀ s, s < 8 → M.1 110 (5 * s) = v (24 + 5 * s) ∧ M.1 110 (5 * s + 1) = v (24 + 5 * s + 1) ∧ M.1 110 (5 * s + 3) = v (24 + 5 * s + 3)) ∧ (∀ k, k < 9 → M.1 111 k = v (1 + k)) ∧ (∀ s, s < 8 → M.1 112 s = v (256 + s)) ∧ (M.1 113 1 = v 10 ∧ M.1 113 2 = v 11 ∧ M.1 113 3 = v 12)
theorem LW.x {v : Sg} {M N : Mem} (h : LW v M) (hF : xfr M N) : LW v N := by
  unfold LW
  rw [(hF 110 (by decide) (by decide)).1, (hF 111 (by decide) (by decide)).1, (hF 112 (by decide) (by decide)).1, (hF 113 (by decide) (by decide)).1]
  exact h
theorem mfr_up {M : Mem} {i k : Nat} {z : Int} (h : 110 ≤ i ∧ i < 1000) : mfr M (vup M.1 i k z, M.2) := ⟨rfl, fun j hj => by funext b; exact vup_nid _ _ _ (by omega)⟩
def aPost (v : Sg) (N : Mem) : Prop := ∃ (w : Sg) (r : Nat) (h : Nat → Nat) (ro : Nat → Sg) (ke : Nat → Int) (kr : Nat → Sg) (t : Nat) (L : Nat → Int), JX w r h ro ke kr t L N ∧ LW w N ∧ ∀ n, wI n v → wI n w
def bgW (s : Nat) (M0 K : Mem) : Prop := K.2 = M0.2 ∧ (∀ i, i ≠ 110 → K.1 i = M0.1 i) ∧ (∀ t, t < s → K.1 110 (5 * t) = ((t % 2 : Nat) : Int) ∧ K.1 110 (5 * t + 1) = 4 + 2 * (t : Int)) ∧ ∀ t, t < 8 → K.1 110 (5 * t + 3) = M0.1 110 (5 * t + 3)
theorem bgW.step {s : Nat} {M0 K : Mem} {a b c : Int} (h : bgW s M0 K) (ha : a = ((s % 2 : Nat) : Int)) (hb : b = 4 + 2 * (s : Int)) : bgW (s + 1) M0 (vup (vup (vup K.1 110 (5 * s) a) 110 (5 * s + 1) b) 110 (5 * s + 2) c, K.2) := by
  obtain ⟨h1, h2, h3, h4⟩ := h
  refine ⟨h1, fun i hi => ?_, fun t ht => ?_, fun t ht => ?_⟩ <;> dsimp only
  · funext q
    rw [vup_o (.inl hi), vup_o (.inl hi), vup_o (.inl hi)]
    exact congrFun (h2 i hi) q
  · by_cases e : t = s
    · subst e
      rw [vup_o (by omega), vup_o (by omega), vup_s, vup_o (by omega), vup_s]
      exact ⟨ha, hb⟩
    · rw [vup_o (by omega), vup_o (by omega), vup_o (by omega), vup_o (by omega), vup_o (by omega), vup_o (by omega)]
      exact h3 t (by omega)
  · rw [vup_o (by omega), vup_o (by omega), vup_o (by omega)]
    exact h4 t ht
def bgQ (z : Int) (M : Mem) : Mem := (vup (vup (vup (vup (vup (vup (vup (vup (vup (vup M.1 111 0 80) 111 1 10) 111 2 10) 111 3 500) 111 4 6000) 111 5 4000) 111 6 120) 111 7 4) 111 8 8) 113 0 z, M.2)
theorem bgQ_at {z : Int} {M : Mem} : (∀ k, k < 9 → (bgQ z M).1 111 k = tFs k) ∧ (∀ i, i ≠ 111 → i ≠ 113 → (bgQ z M).1 i = M.1 i) ∧ ∀ k, k ≠ 0 → (bgQ z M).1 113 k = M.1 113 k := by
  refine ⟨fun k hk => ?_, fun i h1 h2 => ?_, fun k hk => ?_⟩
  · rcases (show k = 0 ∨ k = 1 ∨ k = 2 ∨ k = 3 ∨ k = 4 ∨ k = 5 ∨ k = 6 ∨ k = 7 ∨ k = 8 by omega) with rfl | rfl | rfl | rfl | rfl | rfl | rfl | rfl | rfl <;> simp [bgQ, vup, tFs]
  · funext q
    unfold bgQ
    dsimp only
    rw [vup_o (.inl h2), vup_o (.inl h1), vup_o (.inl h1), vup_o (.inl h1), vup_o (.inl h1), vup_o (.inl h1), vup_o (.inl h1), vup_o (.inl h1), vup_o (.inl h1), vup_o (.inl h1)]
  · unfold bgQ
    dsimp only
    rw [vup_o (.inr hk), vup_o (by omega), vup_o (by omega), vup_o (by omega), vup_o (by omega), vup_o (by omega), vup_o (by omega), vup_o (by omega), vup_o (by omega), vup_o (by omega)]
set_option maxRecDepth 100000 in
set_option maxHeartbeats 400000 in
theorem c_L_begins {l : Launch} {G : vGG} {M : Mem} : Co l yL_begins cL_begins 4 none (rmo 0 0) G [aR (some 110), aR (some 111), aR (some 113)] M (fun r M' => r = none ∧ ∃ K : Mem, bgW 8 M K ∧ M' = bgQ 3000 K) := by
  refine Co.ofV (plainFor_of_name (by decide)) rfl rfl ?_
  intro x hxl hxR hlk hrt Q hQ
  show vO x Q G cL_begins RL 0 [some (aR (some 110)), some (aR (some 111)), some (aR (some 113)), none] [] M
  refine v_iconst dL_begins_0 ?_
  refine v_ist3 dL_begins_1 rfl ?_
  have lp2 : ∀ (dd s : Nat) (K : Mem), s + dd = 8 → bgW s M K → vO x Q G cL_begins RL 2 [some (aR (some 110)), some (aR (some 111)), some (aR (some 113)), some (aI (s : Int))] [] K := by
    intro dd
    induction dd with
    | zero =>
      intro s K hd hK
      obtain rfl : s = 8 := by omega
      refine v_iload_n 3 dL_begins_2 rfl rfl ?_
      refine v_bipush dL_begins_3 (by decide) ?_
      refine v_icmp_ge 47 dL_begins_5 (by decide) (by omega) (by decide) (fun h5 => ?_) (fun h5 => ?_)
      · skip
        refine v_aload_n 1 dL_begins_47 rfl rfl ?_
        refine v_iconst dL_begins_48 ?_
        refine v_bipush dL_begins_49 (by decide) ?_
        refine o_iast (j := 0) (by omega) (rfl : SH 111 = _) (by omega) (by omega) dL_begins_51 ?_
        refine v_aload_n 1 dL_begins_52 rfl rfl ?_
        refine v_iconst dL_begins_53 ?_
        refine v_bipush dL_begins_54 (by decide) ?_
        refine o_iast (j := 1) (by omega) (rfl : SH 111 = _) (by omega) (by omega) dL_begins_56 ?_
        refine v_aload_n 1 dL_begins_57 rfl rfl ?_
        refine v_iconst dL_begins_58 ?_
        refine v_bipush dL_begins_59 (by decide) ?_
        refine o_iast (j := 2) (by omega) (rfl : SH 111 = _) (by omega) (by omega) dL_begins_61 ?_
        refine v_aload_n 1 dL_begins_62 rfl rfl ?_
        refine v_iconst dL_begins_63 ?_
        refine v_sipush dL_begins_64 (by decide) ?_
        refine o_iast (j := 3) (by omega) (rfl : SH 111 = _) (by omega) (by omega) dL_begins_67 ?_
        refine v_aload_n 1 dL_begins_68 rfl rfl ?_
        refine v_iconst dL_begins_69 ?_
        refine v_sipush dL_begins_70 (by decide) ?_
        refine o_iast (j := 4) (by omega) (rfl : SH 111 = _) (by omega) (by omega) dL_begins_73 ?_
        refine v_aload_n 1 dL_begins_74 rfl rfl ?_
        refine v_iconst dL_begins_75 ?_
        refine v_sipush dL_begins_76 (by decide) ?_
        refine o_iast (j := 5) (by omega) (rfl : SH 111 = _) (by omega) (by omega) dL_begins_79 ?_
        refine v_aload_n 1 dL_begins_80 rfl rfl ?_
        refine v_bipush dL_begins_81 (by decide) ?_
        refine v_bipush dL_begins_83 (by decide) ?_
        refine o_iast (j := 6) (by omega) (rfl : SH 111 = _) (by omega) (by omega) dL_begins_85 ?_
        refine v_aload_n 1 dL_begins_86 rfl rfl ?_
        refine v_bipush dL_begins_87 (by decide) ?_
        refine v_iconst dL_begins_89 ?_
        refine o_iast (j := 7) (by omega) (rfl : SH 111 = _) (by omega) (by omega) dL_begins_90 ?_
        refine v_aload_n 1 dL_begins_91 rfl rfl ?_
        refine v_bipush dL_begins_92 (by decide) ?_
        refine v_bipush dL_begins_94 (by decide) ?_
        refine o_iast (j := 8) (by omega) (rfl : SH 111 = _) (by omega) (by omega) dL_begins_96 ?_
        refine v_aload_n 2 dL_begins_97 rfl rfl ?_
        refine v_iconst dL_begins_98 ?_
        refine v_sipush dL_begins_99 (by decide) ?_
        refine o_iast (j := 0) (by omega) (rfl : SH 113 = _) (by omega) (by omega) dL_begins_102 ?_
        refine o_ret hQ hlk hrt dL_begins_103 ?_
        exact ⟨rfl, _, hK, rfl⟩
      · skip
        exact absurd h5 (by omega)
    | succ dd ih =>
      intro s K hd hK
      refine v_iload_n 3 dL_begins_2 rfl rfl ?_
      refine v_bipush dL_begins_3 (by decide) ?_
      refine v_icmp_ge 47 dL_begins_5 (by decide) (by omega) (by decide) (fun h5 => ?_) (fun h5 => ?_)
      · skip
        exact absurd h5 (by omega)
      · skip
        refine v_aload_n 0 dL_begins_8 rfl rfl ?_
        refine v_iconst dL_begins_9 ?_
        refine v_iload_n 3 dL_begins_10 rfl rfl ?_
        refine v_imul dL_begins_11 ?_
        refine v_iload_n 3 dL_begins_12 rfl rfl ?_
        refine v_iconst dL_begins_13 ?_
        refine v_irem dL_begins_14 (by omega) (by decide) (by omega) ?_
        refine o_eqI (u := ((s % 2 : Nat) : Int)) (md_n s 2) ?_
        refine o_iast (j := 5 * s) (by omega) (rfl : SH 110 = _) (by omega) (by omega) dL_begins_15 ?_
        refine v_aload_n 0 dL_begins_16 rfl rfl ?_
        refine v_iconst dL_begins_17 ?_
        refine v_iload_n 3 dL_begins_18 rfl rfl ?_
        refine v_imul dL_begins_19 ?_
        refine v_iconst dL_begins_20 ?_
        refine v_iadd dL_begins_21 ?_
        refine v_iconst dL_begins_22 ?_
        refine v_iconst dL_begins_23 ?_
        refine v_iload_n 3 dL_begins_24 rfl rfl ?_
        refine v_imul dL_begins_25 ?_
        refine v_iadd dL_begins_26 ?_
        refine o_iast (j := (5 * s) + 1) (by omega) (rfl : SH 110 = _) (by omega) (by omega) dL_begins_27 ?_
        refine v_aload_n 0 dL_begins_28 rfl rfl ?_
        refine v_iconst dL_begins_29 ?_
        refine v_iload_n 3 dL_begins_30 rfl rfl ?_
        refine v_imul dL_begins_31 ?_
        refine v_iconst dL_begins_32 ?_
        refine v_iadd dL_begins_33 ?_
        refine v_bipush dL_begins_34 (by decide) ?_
        refine v_iconst dL_begins_36 ?_
        refine v_iload_n 3 dL_begins_37 rfl rfl ?_
        refine v_imul dL_begins_38 ?_
        refine v_iadd dL_begins_39 ?_
        refine o_iast (j := (5 * s) + 2) (by omega) (rfl : SH 110 = _) (by omega) (by omega) dL_begins_40 ?_
        have hK := hK.step (a := ((s % 2 : Nat) : Int)) (b := 4 + 2 * (s : Int)) (c := 20 + 5 * (s : Int)) rfl rfl
        refine v_iinc3 dL_begins_41 rfl ?_
        refine v_goto 2 dL_begins_44 (by decide) ?_
        exact ih (s + 1) _ (by omega) hK
  exact lp2 8 0 _ rfl ⟨rfl, fun _ _ => rfl, fun t ht => absurd ht (by omega), fun _ _ => rfl⟩
