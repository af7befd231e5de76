/-! ===== constructors: the class ===== -/
def X3f : Nat → Nat
  | 0 => 1
  | 1 => 11
  | 2 => 21
  | 3 => 22
  | 4 => 23
  | 5 => 24
  | 6 => 26
  | _ => 33
/-- n cells are made, f fields of the class stand, hj histories, sj slots -/
def XC (n f hj sj : Nat) (M0 M : Mem) : Prop := (∀ i, n ≤ i → M.1 i = M0.1 i ∧ M.2 i = M0.2 i) ∧ M.1 0 = W0 0 ∧ (∀ b, stB b → b + 10 ≤ n → ∀ k, k < 9 → M.2 b k = some (b + 1 + k)) ∧ (11 ≤ n → XS 1 sg0 M.1) ∧ (∀ w, wiB w → w + 7 ≤ n → ∀ k, k < 6 → M.2 w k = some (w + 1 + k)) ∧ (26 ≤ n → M.2 24 0 = some 25 ∧ M.1 24 = W0 24) ∧ (24 ≤ n → M.1 23 = W0 23) ∧ (∀ k, k < f → M.2 0 k = some (X3f k)) ∧ (∀ k, k < hj → 22 ≤ n ∧ M.2 21 k = some (40 + 10 * k)) ∧ (∀ k, k < sj → 23 ≤ n ∧ M.2 22 k = some (90 + 10 * k))
theorem XC.grow {n m f hj sj : Nat} {M0 M M' : Mem} (h : XC n f hj sj M0 M) (hnm : n ≤ m) (h0 : 0 < n) (ho : ∀ i, (i < n ∨ m ≤ i) → M'.1 i = M.1 i ∧ M'.2 i = M.2 i)
    (hb : ∀ b, stB b → n < b + 10 → b + 10 ≤ m → ∀ k, k < 9 → M'.2 b k = some (b + 1 + k)) (h1 : n < 11 → 11 ≤ m → XS 1 sg0 M'.1) (hw : ∀ w, wiB w → n < w + 7 → w + 7 ≤ m → ∀ k, k < 6 → M'.2 w k = some (w + 1 + k))
    (ht : n < 26 → 26 ≤ m → M'.2 24 0 = some 25 ∧ M'.1 24 = W0 24) (hk : n < 24 → 24 ≤ m → M'.1 23 = W0 23) : XC m f hj sj M0 M' := by
  obtain ⟨a1, a2, a3, a4, a5, a6, a7, a8, a9, a10⟩ := h
  refine ⟨fun i hi => ⟨by rw [(ho i (by omega)).1]; exact (a1 i (by omega)).1, by rw [(ho i (by omega)).2]; exact (a1 i (by omega)).2⟩, by rw [(ho 0 (by omega)).1]; exact a2, fun b p q k hk => ?_, fun p => ?_, fun w p q k hk => ?_, fun p => ?_, fun p => ?_, fun k p => by rw [(ho 0 (by omega)).2]; exact a8 k p, fun k p => ?_, fun k p => ?_⟩
  · by_cases e : b + 10 ≤ n
    · rw [(ho b (by omega)).2]; exact a3 b p e k hk
    · exact hb b p (by omega) q k hk
  · by_cases e : 11 ≤ n
    · exact (a4 e).keep (fun i p q => (ho i (by omega)).1)
    · exact h1 (by omega) p
  · by_cases e : w + 7 ≤ n
    · rw [(ho w (by omega)).2]; exact a5 w p e k hk
    · exact hw w p (by omega) q k hk
  · by_cases e : 26 ≤ n
    · rw [(ho 24 (by omega)).2, (ho 24 (by omega)).1]; exact a6 e
    · exact ht (by omega) p
  · by_cases e : 24 ≤ n
    · rw [(ho 23 (by omega)).1]; exact a7 e
    · exact hk (by omega) p
  · have q := a9 k p
    exact ⟨by omega, by rw [(ho 21 (by omega)).2]; exact q.2⟩
  · have q := a10 k p
    exact ⟨by omega, by rw [(ho 22 (by omega)).2]; exact q.2⟩
theorem XC.st {n f hj sj : Nat} {M0 M N : Mem} (h : XC n f hj sj M0 M) (hB : stB n) (hS : nS n (vz M n) N) : XC (n + 1 + 9) f hj sj M0 N := by
  have hlt := stB_lt hB
  refine h.grow (by omega) (by omega) (fun i hi => ⟨?_, ?_⟩) (fun b hb p q => ?_) (fun p q => ?_) (fun w hw p q => ?_) (fun p q => ?_) (fun p q => ?_)
  · rw [(hS.1 i (by omega)).1, vz_1 (by omega)]
  · rw [(hS.1 i (by omega)).2, vz_2 (by omega)]
  · have e : b = n := by
      by_cases e : b = n
      · exact e
      · have := ab_d hb hB e; omega
    subst e
    exact hS.2.1
  · obtain rfl : n = 1 := by unfold stB at hB; omega
    exact hS.2.2
  · unfold stB at hB
    unfold wiB at hw
    omega
  · unfold stB at hB
    omega
  · unfold stB at hB
    omega
theorem XC.arr {n f hj sj : Nat} {M0 M : Mem} (h : XC n f hj sj M0 M) (hn : n = 21 ∨ n = 22 ∨ n = 23) : XC (n + 1) f hj sj M0 (vz M n) := by
  refine h.grow (by omega) (by omega) (fun i hi => ⟨vz_1 (by omega), vz_2 (by omega)⟩) (fun b hb p q => ?_) (fun p q => by omega) (fun w hw p q => ?_) (fun p q => by omega) (fun p q => ?_)
  · unfold stB at hb; omega
  · unfold wiB at hw; omega
  · obtain rfl : n = 23 := by omega
    exact vz_s
theorem XC.txt {f hj sj : Nat} {M0 M N : Mem} (h : XC 24 f hj sj M0 M) (hS : nG 24 1 F0k W0 (vz M 24) N) : XC 26 f hj sj M0 N := by
  refine h.grow (by omega) (by omega) (fun i hi => ⟨?_, ?_⟩) (fun b hb p q => ?_) (fun p q => by omega) (fun w hw p q => ?_) (fun p q => ⟨hS.2.2 0 (by decide), hS.2.1 24 (by decide) (by decide)⟩) (fun p q => by omega)
  · rw [(hS.1 i (by omega)).1, vz_1 (by omega)]
  · rw [(hS.1 i (by omega)).2, vz_2 (by omega)]
  · unfold stB at hb; omega
  · unfold wiB at hw; omega
theorem XC.wi {n f hj sj : Nat} {M0 M N : Mem} (h : XC n f hj sj M0 M) (hB : wiB n) (hS : nG n 6 F0k W0 (vz M n) N) : XC (n + 7) f hj sj M0 N := by
  have hlt := wiB_lt hB
  refine h.grow (by omega) (by omega) (fun i hi => ⟨?_, ?_⟩) (fun b hb p q => ?_) (fun p q => by omega) (fun w hw p q => ?_) (fun p q => by omega) (fun p q => by omega)
  · rw [(hS.1 i (by omega)).1, vz_1 (by omega)]
  · rw [(hS.1 i (by omega)).2, vz_2 (by omega)]
  · unfold stB at hb
    unfold wiB at hB
    omega
  · obtain rfl : w = n := by unfold wiB at hw hB; omega
    exact hS.2.2
theorem XC.fld {n f hj sj : Nat} {M0 M : Mem} (h : XC n f hj sj M0 M) {j k : Nat} (hk : k = f) (hj2 : X3f f = j) (h0 : 0 < n) : XC n (f + 1) hj sj M0 (M.1, vup M.2 0 k (some j)) := by
  subst hk
  obtain ⟨a1, a2, a3, a4, a5, a6, a7, a8, a9, a10⟩ := h
  refine ⟨fun i hi => ⟨(a1 i hi).1, by dsimp only; rw [vupR_o (by omega)]; exact (a1 i hi).2⟩, a2, fun b p q k hk => ?_, a4, fun w p q k hk => ?_, fun p => ⟨by dsimp only; rw [vupR_o (by omega)]; exact (a6 p).1, (a6 p).2⟩, a7, fun i hi => ?_, fun i hi => ⟨(a9 i hi).1, by dsimp only; rw [vupR_o (by omega)]; exact (a9 i hi).2⟩, fun i hi => ⟨(a10 i hi).1, by dsimp only; rw [vupR_o (by omega)]; exact (a10 i hi).2⟩⟩
  · have := stB_lt p
    dsimp only
    rw [vupR_o (by omega)]; exact a3 b p q k hk
  · have := wiB_lt p
    dsimp only
    rw [vupR_o (by omega)]; exact a5 w p q k hk
  · dsimp only
    rw [vupR]
    by_cases e : i = k
    · rw [if_pos e, e, hj2]
    · rw [if_neg e]; exact a8 i (by omega)
theorem XC.his {n f hj sj : Nat} {M0 M : Mem} (h : XC n f hj sj M0 M) (h0 : 22 ≤ n) : XC n f (hj + 1) sj M0 (M.1, vup M.2 21 hj (some (40 + 10 * hj))) := by
  obtain ⟨a1, a2, a3, a4, a5, a6, a7, a8, a9, a10⟩ := h
  refine ⟨fun i hi => ⟨(a1 i hi).1, by dsimp only; rw [vupR_o (by omega)]; exact (a1 i hi).2⟩, a2, fun b p q k hk => ?_, a4, fun w p q k hk => ?_, fun p => ⟨by dsimp only; rw [vupR_o (by omega)]; exact (a6 p).1, (a6 p).2⟩, a7, fun i hi => by dsimp only; rw [vupR_o (by omega)]; exact a8 i hi, fun i hi => ⟨h0, ?_⟩, fun i hi => ⟨(a10 i hi).1, by dsimp only; rw [vupR_o (by omega)]; exact (a10 i hi).2⟩⟩
  · dsimp only
    rw [vupR_o (by unfold stB at p; omega)]; exact a3 b p q k hk
  · have := wiB_lt p
    dsimp only
    rw [vupR_o (by omega)]; exact a5 w p q k hk
  · dsimp only
    rw [vupR]
    by_cases e : i = hj
    · rw [if_pos e, e]
    · rw [if_neg e]; exact (a9 i (by omega)).2
theorem XC.slo {n f hj sj : Nat} {M0 M : Mem} (h : XC n f hj sj M0 M) (h0 : 23 ≤ n) : XC n f hj (sj + 1) M0 (M.1, vup M.2 22 sj (some (90 + 10 * sj))) := by
  obtain ⟨a1, a2, a3, a4, a5, a6, a7, a8, a9, a10⟩ := h
  refine ⟨fun i hi => ⟨(a1 i hi).1, by dsimp only; rw [vupR_o (by omega)]; exact (a1 i hi).2⟩, a2, fun b p q k hk => ?_, a4, fun w p q k hk => ?_, fun p => ⟨by dsimp only; rw [vupR_o (by omega)]; exact (a6 p).1, (a6 p).2⟩, a7, fun i hi => by dsimp only; rw [vupR_o (by omega)]; exact a8 i hi, fun i hi => ⟨(a9 i hi).1, by dsimp only; rw [vupR_o (by omega)]; exact (a9 i hi).2⟩, fun i hi => ⟨h0, ?_⟩⟩
  · dsimp only
    rw [vupR_o (by unfold stB at p; omega)]; exact a3 b p q k hk
  · have := wiB_lt p
    dsimp only
    rw [vupR_o (by omega)]; exact a5 w p q k hk
  · dsimp only
    rw [vupR]
    by_cases e : i = sj
    · rw [if_pos e, e]
    · rw [if_neg e]; exact (a10 i (by omega)).2
theorem XC.lay {M0 M : Mem} (h : XC 110 8 5 2 M0 M) : LayX M.2 := by
  obtain ⟨a1, a2, a3, a4, a5, a6, a7, a8, a9, a10⟩ := h
  exact ⟨fun b hb k hk => a3 b hb (stB_lt hb).1 k hk, fun w hw k hk => a5 w hw (by have := wiB_lt hw; omega) k hk, (a6 (by decide)).1, ⟨a8 0 (by decide), a8 1 (by decide), a8 2 (by decide), a8 3 (by decide), a8 4 (by decide), a8 5 (by decide), a8 6 (by decide), a8 7 (by decide)⟩, (a10 0 (by decide)).2, (a10 1 (by decide)).2⟩
section UCS
variable {x : vXX} {Q : State → Prop} {G : vGG} {cc : ByteArray} {own : String} {n cl sl pc : Nat} {ls : List (Option AV)} {st : List AV} {M : Mem}
theorem u_cs {n' cl' sl' : Nat} (hn : n = n') (hc : cl = cl') (hs : sl = sl') (kk : vU x Q G cc own n' cl' sl' pc ls st M) : vU x Q G cc own n cl sl pc ls st M := by
  subst hn hc hs
  exact kk
theorem u_aast {i len v j : Nat} {z : Int} (hi : i < 1000) (hs : SH i = some (.inr (2, len))) (hin : i < n) (hv : SH v = some (.inl 0)) (hvn : v < n) (hz : z = (j : Int)) (hj : j < len ∧ len ≤ 2147483647) (hd : decode cc pc = .ok (.aastore, 1))
    (kk : vU x Q G cc own n cl sl (pc + 1) ls st (M.1, vup M.2 i j (some v))) : vU x Q G cc own n cl sl pc ls (aR (some v) :: aI z :: aR (some i) :: st) M := by
  subst hz
  refine v_aast hi (shU_at hs (.inl hin)) (shU_at hv (.inl hvn)) (by omega) hd ?_
  rw [Int.toNat_natCast]
  exact kk
end UCS
set_option maxRecDepth 100000 in
set_option maxHeartbeats 1000000 in
theorem c_X3_init {l : Launch} {G : vGG} {M : Mem} (hz : M.1 0 = W0 0) (hst : ∀ k, k < 9 → M.1 1000 k = tFs k) : Ct l yX3_init cX3_init 2 none (rmk 2 109 2933 39) G [aR (some 0)] (shU (0 + 1)) (0 + 1) M (vPn 110 (XC 110 8 5 2 M)) := by
  refine Ct.ofV (plainFor_of_name (by decide)) rfl rfl ?_
  intro x hxl hxR hlk hrt hnm Q hQ
  have hin : (xM x).name = "<init>" := hnm
  obtain ⟨M0, hM0⟩ : ∃ M0 : Mem, M0 = M := ⟨_, rfl⟩
  rw [hM0.symm] at hst
  have hC : XC 1 0 0 0 M0 M := by
    rw [hM0]
    exact ⟨fun _ _ => ⟨rfl, rfl⟩, hz, fun b hb h => absurd h (by omega), fun h => absurd h (by decide), fun w hw h => absurd h (by omega), fun h => absurd h (by decide), fun h => absurd h (by decide), fun k h => absurd h (by omega), fun k h => absurd h (by omega), fun k h => absurd h (by omega)⟩
  show vU x Q G cX3_init RX3 (0 + 1) (0) (0) 0 [some (aR (some 0)), none] [] M
  refine v_aload_n 0 dX3_init_0 rfl rfl ?_
  refine v_objInit ml_X3_1 lo_i lo_c rfl (by rw [hxR]; decide) (by rw [hxR]; decide) dX3_init_1 ?_
  refine u_cs (n' := 1) (cl' := 0) (sl' := 0) (by omega) (by omega) (by omega) ?_
  refine v_aload_n 0 dX3_init_4 rfl rfl ?_
  refine u_new (r := (RX0, TX0, 20)) rfl lc_X3_7 li_0 lI_0 (rfl : SH 1 = _) (by omega) (by rw [hxR]; exact (by omega : 0 + 1 ≤ 109)) (by rw [hxR]; exact (by omega : 0 + 20 ≤ 2933)) dX3_init_5 ?_
  refine v_dup dX3_init_8 rfl ?_
  refine v_callI (As := []) (c_X0_init stB_1 vz_s (fun k hk => (congrFun (vz_1 (by omega)) k).trans ((congrFun (hC.1 1000 (by omega)).1 k).trans (hst k hk)))) k0_X0_init ml_X3_9 ki_X0_init rfl rfl (show vRm (rmk 1 9 245 18) (xR x) 2 (0 + 1) (0 + 20) from by rw [hxR]; exact ⟨⟨(by decide : 1 + 1 ≤ 2), (by decide : 8 + (2 + 11) + 18 ≤ 39)⟩, (by omega : 0 + 1 + 9 ≤ 109), (by omega : 0 + 20 + 245 ≤ 2933)⟩) (Nat.le_of_ble_eq_true rfl) dX3_init_9 (fun r0 sh' n' N hp => ?_)
  obtain ⟨rfl, rfl, rfl, hS⟩ := hp
  show vU x Q G cX3_init RX3 (1 + 1 + 9) (0 + 1 + 9) (0 + 20 + 245) 12 [some (aR (some 0)), none] [aR (some 1), aR (some 0)] N
  have hC := hC.st stB_1 hS
  refine v_putFR hin lf_X3_10 rfl (fun _ => rfl) (fun _ => rfl) (shU_at (rfl : SH 0 = _) (by omega)) dX3_init_12 ?_
  refine u_mem (P := XC 11 1 0 0 M0) (hC.fld rfl rfl (by decide)) (fun M hC => ?_)
  refine u_cs (n' := 11) (cl' := 10) (sl' := 265) (by omega) (by omega) (by omega) ?_
  refine v_aload_n 0 dX3_init_15 rfl rfl ?_
  refine u_new (r := (RX0, TX0, 20)) rfl lc_X3_7 li_0 lI_0 (rfl : SH 11 = _) (by omega) (by rw [hxR]; exact (by omega : 10 + 1 ≤ 109)) (by rw [hxR]; exact (by omega : 265 + 20 ≤ 2933)) dX3_init_16 ?_
  refine v_dup dX3_init_19 rfl ?_
  refine v_callI (As := []) (c_X0_init stB_11 vz_s (fun k hk => (congrFun (vz_1 (by omega)) k).trans ((congrFun (hC.1 1000 (by omega)).1 k).trans (hst k hk)))) k0_X0_init ml_X3_9 ki_X0_init rfl rfl (show vRm (rmk 1 9 245 18) (xR x) 2 (10 + 1) (265 + 20) from by rw [hxR]; exact ⟨⟨(by decide : 1 + 1 ≤ 2), (by decide : 8 + (2 + 11) + 18 ≤ 39)⟩, (by omega : 10 + 1 + 9 ≤ 109), (by omega : 265 + 20 + 245 ≤ 2933)⟩) (Nat.le_of_ble_eq_true rfl) dX3_init_20 (fun r0 sh' n' N hp => ?_)
  obtain ⟨rfl, rfl, rfl, hS⟩ := hp
  show vU x Q G cX3_init RX3 (11 + 1 + 9) (10 + 1 + 9) (265 + 20 + 245) 23 [some (aR (some 0)), none] [aR (some 11), aR (some 0)] N
  have hC := hC.st stB_11 hS
  refine v_putFR hin lf_X3_16 rfl (fun _ => rfl) (fun _ => rfl) (shU_at (rfl : SH 0 = _) (by omega)) dX3_init_23 ?_
  refine u_mem (P := XC 21 2 0 0 M0) (hC.fld rfl rfl (by decide)) (fun M hC => ?_)
  refine u_cs (n' := 21) (cl' := 20) (sl' := 530) (by omega) (by omega) (by omega) ?_
  refine v_aload_n 0 dX3_init_26 rfl rfl ?_
  refine v_iconst dX3_init_27 ?_
  refine u_newA lc_X3_7 (rfl : SH 21 = _) rfl (by decide) (by omega) (by rw [hxR]; exact (by omega : 20 + 1 ≤ 109)) (by rw [hxR]; exact (by omega : 530 + 5 ≤ 2933)) dX3_init_28 ?_
  have hC := hC.arr (by decide)
  refine v_putFR hin lf_X3_19 rfl (fun _ => rfl) (fun _ => rfl) (shU_at (rfl : SH 0 = _) (by omega)) dX3_init_31 ?_
  refine u_mem (P := XC 22 3 0 0 M0) (hC.fld rfl rfl (by decide)) (fun M hC => ?_)
  refine u_cs (n' := 22) (cl' := 21) (sl' := 535) (by omega) (by omega) (by omega) ?_
  refine v_aload_n 0 dX3_init_34 rfl rfl ?_
  refine v_iconst dX3_init_35 ?_
  refine u_newA lc_X3_7 (rfl : SH 22 = _) rfl (by decide) (by omega) (by rw [hxR]; exact (by omega : 21 + 1 ≤ 109)) (by rw [hxR]; exact (by omega : 535 + 2 ≤ 2933)) dX3_init_36 ?_
  have hC := hC.arr (by decide)
  refine v_putFR hin lf_X3_23 rfl (fun _ => rfl) (fun _ => rfl) (shU_at (rfl : SH 0 = _) (by omega)) dX3_init_39 ?_
  refine u_mem (P := XC 23 4 0 0 M0) (hC.fld rfl rfl (by decide)) (fun M hC => ?_)
  refine u_cs (n' := 23) (cl' := 22) (sl' := 537) (by omega) (by omega) (by omega) ?_
  refine v_aload_n 0 dX3_init_42 rfl rfl ?_
  refine v_iconst dX3_init_43 ?_
  refine u_newZ (rfl : SH 23 = _) rfl (by decide) (by omega) (by rw [hxR]; exact (by omega : 22 + 1 ≤ 109)) (by rw [hxR]; exact (by omega : 537 + 2 ≤ 2933)) dX3_init_44 ?_
  have hC := hC.arr (by decide)
  refine v_putFR hin lf_X3_26 rfl (fun _ => rfl) (fun _ => rfl) (shU_at (rfl : SH 0 = _) (by omega)) dX3_init_46 ?_
  refine u_mem (P := XC 24 5 0 0 M0) (hC.fld rfl rfl (by decide)) (fun M hC => ?_)
  refine u_cs (n' := 24) (cl' := 23) (sl' := 539) (by omega) (by omega) (by omega) ?_
  refine v_aload_n 0 dX3_init_49 rfl rfl ?_
  refine u_new (r := (RX1, TX1, 7)) rfl lc_X3_30 li_1 lI_1 (rfl : SH 24 = _) (by omega) (by rw [hxR]; exact (by omega : 23 + 1 ≤ 109)) (by rw [hxR]; exact (by omega : 539 + 7 ≤ 2933)) dX3_init_50 ?_
  refine v_dup dX3_init_53 rfl ?_
  refine v_callIN (As := []) (c_X1_init (by omega) (rfl : SH 24 = _) (rfl : SH 25 = _) vz_s) k0_X1_init ml_X3_32 ki_X1_init rfl rfl (show vRm (rmk 1 1 80 12) (xR x) 1 (23 + 1) (539 + 7) from by rw [hxR]; exact ⟨⟨(by decide : 1 + 1 ≤ 2), (by decide : 8 + (1 + 11) + 12 ≤ 39)⟩, (by omega : 23 + 1 + 1 ≤ 109), (by omega : 539 + 7 + 80 ≤ 2933)⟩) (Nat.le_of_ble_eq_true rfl) dX3_init_54 (fun r0 sh' n' N hp => ?_)
  obtain ⟨rfl, rfl, rfl, hS⟩ := hp
  show vU x Q G cX3_init RX3 (24 + 1 + 1) (23 + 1 + 1) (539 + 7 + 80) 57 [some (aR (some 0)), none] [aR (some 24), aR (some 0)] N
  have hC := hC.txt hS
  refine v_putFR hin lf_X3_33 rfl (fun _ => rfl) (fun _ => rfl) (shU_at (rfl : SH 0 = _) (by omega)) dX3_init_57 ?_
  refine u_mem (P := XC 26 6 0 0 M0) (hC.fld rfl rfl (by decide)) (fun M hC => ?_)
  refine u_cs (n' := 26) (cl' := 25) (sl' := 626) (by omega) (by omega) (by omega) ?_
  refine v_aload_n 0 dX3_init_60 rfl rfl ?_
  refine u_new (r := (RX2, TX2, 6)) rfl lc_X3_37 li_2 lI_2 (rfl : SH 26 = _) (by omega) (by rw [hxR]; exact (by omega : 25 + 1 ≤ 109)) (by rw [hxR]; exact (by omega : 626 + 6 ≤ 2933)) dX3_init_61 ?_
  refine v_dup dX3_init_64 rfl ?_
  refine v_callIN (As := []) (c_X2_init wiB_26 vz_s) k0_X2_init ml_X3_39 ki_X2_init rfl rfl (show vRm (rmk 1 6 220 12) (xR x) 1 (25 + 1) (626 + 6) from by rw [hxR]; exact ⟨⟨(by decide : 1 + 1 ≤ 2), (by decide : 8 + (1 + 11) + 12 ≤ 39)⟩, (by omega : 25 + 1 + 6 ≤ 109), (by omega : 626 + 6 + 220 ≤ 2933)⟩) (Nat.le_of_ble_eq_true rfl) dX3_init_65 (fun r0 sh' n' N hp => ?_)
  obtain ⟨rfl, rfl, rfl, hS⟩ := hp
  show vU x Q G cX3_init RX3 (26 + 1 + 6) (25 + 1 + 6) (626 + 6 + 220) 68 [some (aR (some 0)), none] [aR (some 26), aR (some 0)] N
  have hC := hC.wi wiB_26 hS
  refine v_putFR hin lf_X3_40 rfl (fun _ => rfl) (fun _ => rfl) (shU_at (rfl : SH 0 = _) (by omega)) dX3_init_68 ?_
  refine u_mem (P := XC 33 7 0 0 M0) (hC.fld rfl rfl (by decide)) (fun M hC => ?_)
  refine u_cs (n' := 33) (cl' := 32) (sl' := 852) (by omega) (by omega) (by omega) ?_
  refine v_aload_n 0 dX3_init_71 rfl rfl ?_
  refine u_new (r := (RX2, TX2, 6)) rfl lc_X3_37 li_2 lI_2 (rfl : SH 33 = _) (by omega) (by rw [hxR]; exact (by omega : 32 + 1 ≤ 109)) (by rw [hxR]; exact (by omega : 852 + 6 ≤ 2933)) dX3_init_72 ?_
  refine v_dup dX3_init_75 rfl ?_
  refine v_callIN (As := []) (c_X2_init wiB_33 vz_s) k0_X2_init ml_X3_39 ki_X2_init rfl rfl (show vRm (rmk 1 6 220 12) (xR x) 1 (32 + 1) (852 + 6) from by rw [hxR]; exact ⟨⟨(by decide : 1 + 1 ≤ 2), (by decide : 8 + (1 + 11) + 12 ≤ 39)⟩, (by omega : 32 + 1 + 6 ≤ 109), (by omega : 852 + 6 + 220 ≤ 2933)⟩) (Nat.le_of_ble_eq_true rfl) dX3_init_76 (fun r0 sh' n' N hp => ?_)
  obtain ⟨rfl, rfl, rfl, hS⟩ := hp
  show vU x Q G cX3_init RX3 (33 + 1 + 6) (32 + 1 + 6) (852 + 6 + 220) 79 [some (aR (some 0)), none] [aR (some 33), aR (some 0)] N
  have hC := hC.wi wiB_33 hS
  refine v_putFR hin lf_X3_44 rfl (fun _ => rfl) (fun _ => rfl) (shU_at (rfl : SH 0 = _) (by omega)) dX3_init_79 ?_
  refine u_mem (P := XC 40 8 0 0 M0) (hC.fld rfl rfl (by decide)) (fun M hC => ?_)
  refine u_cs (n' := 40) (cl' := 39) (sl' := 1078) (by omega) (by omega) (by omega) ?_
  refine v_iconst dX3_init_82 ?_
  refine v_ist1 dX3_init_83 rfl ?_
  have lp110 : ∀ (dd i : Nat) (M : Mem), i + dd = 2 → XC (90 + 10 * i) 8 5 i M0 M → vU x Q G cX3_init RX3 (90 + 10 * i) (89 + 10 * i) (2403 + 265 * i) 110 [some (aR (some 0)), some (aI (i : Int))] [] M := by
    intro dd
    induction dd with
    | zero =>
      intro i M hd hC
      refine v_iload_n 1 dX3_init_110 rfl rfl ?_
      refine v_iconst dX3_init_111 ?_
      refine v_icmp_ge 134 dX3_init_112 (by decide) (by omega) (by decide) (fun h0 => ?_) (fun h0 => ?_)
      · skip
        obtain rfl : i = 2 := by omega
        refine v_ret hQ (by omega : 89 + 10 * 2 ≤ 109) (by omega : 2403 + 265 * 2 ≤ 2933) hlk hrt dX3_init_134 ?_
        exact ⟨rfl, rfl, rfl, by rw [← hM0]; exact hC⟩
      · skip
        exact absurd h0 (by omega)
    | succ dd ih =>
      intro i M hd hC
      refine v_iload_n 1 dX3_init_110 rfl rfl ?_
      refine v_iconst dX3_init_111 ?_
      refine v_icmp_ge 134 dX3_init_112 (by decide) (by omega) (by decide) (fun h0 => ?_) (fun h0 => ?_)
      · skip
        exact absurd h0 (by omega)
      · skip
        have hBi : stB (90 + 10 * i) := by unfold stB; omega
        refine v_aload_n 0 dX3_init_115 rfl rfl ?_
        refine v_getR lk_X3_23 rfl (shU_at (rfl : SH 0 = _) (by omega)) (hC.2.2.2.2.2.2.2.1 3 (by decide)) dX3_init_116 ?_
        refine v_iload_n 1 dX3_init_119 rfl rfl ?_
        refine u_new (r := (RX0, TX0, 20)) rfl lc_X3_7 li_0 lI_0 (st_o hBi) (by omega) (by rw [hxR]; exact (by omega : 89 + 10 * i + 1 ≤ 109)) (by rw [hxR]; exact (by omega : 2403 + 265 * i + 20 ≤ 2933)) dX3_init_120 ?_
        refine v_dup dX3_init_123 rfl ?_
        refine v_callI (As := []) (c_X0_init hBi vz_s (fun k hk => (congrFun (vz_1 (by omega)) k).trans ((congrFun (hC.1 1000 (by omega)).1 k).trans (hst k hk)))) k0_X0_init ml_X3_9 ki_X0_init rfl rfl (show vRm (rmk 1 9 245 18) (xR x) 2 (89 + 10 * i + 1) (2403 + 265 * i + 20) from by rw [hxR]; exact ⟨⟨(by decide : 1 + 1 ≤ 2), (by decide : 8 + (2 + 11) + 18 ≤ 39)⟩, (by omega : 89 + 10 * i + 1 + 9 ≤ 109), (by omega : 2403 + 265 * i + 20 + 245 ≤ 2933)⟩) (Nat.le_of_ble_eq_true rfl) dX3_init_124 (fun r0 sh' n' N hp => ?_)
        obtain ⟨rfl, rfl, rfl, hS⟩ := hp
        show vU x Q G cX3_init RX3 (90 + 10 * i + 1 + 9) (89 + 10 * i + 1 + 9) (2403 + 265 * i + 20 + 245) 127 [some (aR (some 0)), some (aI (i : Int))] [aR (some (90 + 10 * i)), aI (i : Int), aR (some 22)] N
        have hC := hC.st hBi hS
        refine u_aast (j := i) (by decide) (rfl : SH 22 = _) (by omega) (st_o hBi) (by omega) rfl (by omega) dX3_init_127 ?_
        refine u_mem (P := XC (90 + 10 * (i + 1)) 8 5 (i + 1) M0) (show XC (90 + 10 * (i + 1)) 8 5 (i + 1) M0 _ from by rw [show 90 + 10 * (i + 1) = 90 + 10 * i + 1 + 9 by omega]; exact hC.slo (by omega)) (fun M hC => ?_)
        refine v_iinc1 dX3_init_128 rfl ?_
        refine v_goto 110 dX3_init_131 (by decide) ?_
        refine u_cs (n' := 90 + 10 * (i + 1)) (cl' := 89 + 10 * (i + 1)) (sl' := 2403 + 265 * (i + 1)) (by omega) (by omega) (by omega) ?_
        exact ih (i + 1) _ (by omega) hC
  have lp84 : ∀ (dd i : Nat) (M : Mem), i + dd = 5 → XC (40 + 10 * i) 8 i 0 M0 M → vU x Q G cX3_init RX3 (40 + 10 * i) (39 + 10 * i) (1078 + 265 * i) 84 [some (aR (some 0)), some (aI (i : Int))] [] M := by
    intro dd
    induction dd with
    | zero =>
      intro i M hd hC
      refine v_iload_n 1 dX3_init_84 rfl rfl ?_
      refine v_iconst dX3_init_85 ?_
      refine v_icmp_ge 108 dX3_init_86 (by decide) (by omega) (by decide) (fun h0 => ?_) (fun h0 => ?_)
      · skip
        refine v_iconst dX3_init_108 ?_
        refine v_ist1 dX3_init_109 rfl ?_
        obtain rfl : i = 5 := by omega
        refine u_cs (n' := 90 + 10 * 0) (cl' := 89 + 10 * 0) (sl' := 2403 + 265 * 0) (by omega) (by omega) (by omega) ?_
        exact lp110 2 0 M rfl hC
      · skip
        exact absurd h0 (by omega)
    | succ dd ih =>
      intro i M hd hC
      refine v_iload_n 1 dX3_init_84 rfl rfl ?_
      refine v_iconst dX3_init_85 ?_
      refine v_icmp_ge 108 dX3_init_86 (by decide) (by omega) (by decide) (fun h0 => ?_) (fun h0 => ?_)
      · skip
        exact absurd h0 (by omega)
      · skip
        have hBi : stB (40 + 10 * i) := by unfold stB; omega
        refine v_aload_n 0 dX3_init_89 rfl rfl ?_
        refine v_getR lk_X3_19 rfl (shU_at (rfl : SH 0 = _) (by omega)) (hC.2.2.2.2.2.2.2.1 2 (by decide)) dX3_init_90 ?_
        refine v_iload_n 1 dX3_init_93 rfl rfl ?_
        refine u_new (r := (RX0, TX0, 20)) rfl lc_X3_7 li_0 lI_0 (st_o hBi) (by omega) (by rw [hxR]; exact (by omega : 39 + 10 * i + 1 ≤ 109)) (by rw [hxR]; exact (by omega : 1078 + 265 * i + 20 ≤ 2933)) dX3_init_94 ?_
        refine v_dup dX3_init_97 rfl ?_
        refine v_callI (As := []) (c_X0_init hBi vz_s (fun k hk => (congrFun (vz_1 (by omega)) k).trans ((congrFun (hC.1 1000 (by omega)).1 k).trans (hst k hk)))) k0_X0_init ml_X3_9 ki_X0_init rfl rfl (show vRm (rmk 1 9 245 18) (xR x) 2 (39 + 10 * i + 1) (1078 + 265 * i + 20) from by rw [hxR]; exact ⟨⟨(by decide : 1 + 1 ≤ 2), (by decide : 8 + (2 + 11) + 18 ≤ 39)⟩, (by omega : 39 + 10 * i + 1 + 9 ≤ 109), (by omega : 1078 + 265 * i + 20 + 245 ≤ 2933)⟩) (Nat.le_of_ble_eq_true rfl) dX3_init_98 (fun r0 sh' n' N hp => ?_)
        obtain ⟨rfl, rfl, rfl, hS⟩ := hp
        show vU x Q G cX3_init RX3 (40 + 10 * i + 1 + 9) (39 + 10 * i + 1 + 9) (1078 + 265 * i + 20 + 245) 101 [some (aR (some 0)), some (aI (i : Int))] [aR (some (40 + 10 * i)), aI (i : Int), aR (some 21)] N
        have hC := hC.st hBi hS
        refine u_aast (j := i) (by decide) (rfl : SH 21 = _) (by omega) (st_o hBi) (by omega) rfl (by omega) dX3_init_101 ?_
        refine u_mem (P := XC (40 + 10 * (i + 1)) 8 (i + 1) 0 M0) (show XC (40 + 10 * (i + 1)) 8 (i + 1) 0 M0 _ from by rw [show 40 + 10 * (i + 1) = 40 + 10 * i + 1 + 9 by omega]; exact hC.his (by omega)) (fun M hC => ?_)
        refine v_iinc1 dX3_init_102 rfl ?_
        refine v_goto 84 dX3_init_105 (by decide) ?_
        refine u_cs (n' := 40 + 10 * (i + 1)) (cl' := 39 + 10 * (i + 1)) (sl' := 1078 + 265 * (i + 1)) (by omega) (by omega) (by omega) ?_
        exact ih (i + 1) _ (by omega) hC
  exact lp84 5 0 M rfl hC
