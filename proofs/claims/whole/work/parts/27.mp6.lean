/-! ===== the twin: the questions with any arguments ===== -/
def aStop (v : Sg) (a b : Int) : Int := if 0 ≤ a ∧ a ≤ 7 then (if 0 ≤ b ∧ b ≤ 4 then v (24 + 5 * a.toNat + b.toNat) else -1000002) else -1000001
def aStrokes (v : Sg) (a : Int) : Int := if 0 ≤ a ∧ a ≤ 1 then v (18 + a.toNat) else -1000001
def aTell (v : Sg) (a : Int) : Int := if 0 ≤ a ∧ a ≤ 9 then sTell v a.toNat else -1000001
def aChest (v : Sg) (a b : Int) : Int := if 0 ≤ a ∧ a ≤ 1 then (if 0 ≤ b ∧ b ≤ 2 then sCh v a.toNat b.toNat else -1000002) else -1000001
def aPipe (v : Sg) (a b c : Int) : Int := if 0 ≤ a ∧ a ≤ 7 then (if 0 ≤ b ∧ b ≤ 23 then (if 0 ≤ c ∧ c ≤ 4 then sPi v a.toNat b.toNat c.toNat else -1000002) else -1000001) else -1000001
def aReason (v : Sg) (a b : Int) : Int := if 0 ≤ a ∧ a ≤ 7 then (if 0 ≤ b ∧ b ≤ 23 then sRs v (sDrw v) true a.toNat b.toNat else -1000001) else -1000001
def aSearch (v : Sg) (a : Int) : Int := if 0 ≤ a ∧ a ≤ 2 then sSearch v a.toNat else -1000001
def sRob (v : Sg) (st2 : Nat) : Nat → Nat
  | 0 => 0
  | p + 1 => sRob v st2 p + (if sRs v (sDrw v) true (p / 24) (p % 24) = 0 ∧ ¬ sRs v st2 true (p / 24) (p % 24) = 0 then 1 else 0)
def aRob (v : Sg) (a : Int) : Int := if 0 ≤ a ∧ a ≤ 7 then (if (sDrw v).testBit a.toNat = true then -1000003 else ((sRob v (sDrw v ||| 2 ^ a.toNat) 192 : Nat) : Int)) else -1000001
set_option maxRecDepth 100000 in
set_option maxHeartbeats 400000 in
theorem c_X4_stop {l : Launch} {G : vGG} {M : Mem} {v : Sg} (hLM : LayM M.2) (hv : M.1 111 = v) (hI : sInv v) {a b : Int} (ha : R32 a) (hb : R32 b) : Cv l yX4_stop cX4_stop 3 (some .int) (rmo 2 42) G [aR (some 110), aI a, aI b] M (some (aI (aStop v a b))) M := by
  refine Co.ofV (plainFor_of_name (by decide)) rfl rfl ?_
  intro x hxl hxR hlk hrt Q hQ
  show vO x Q G cX4_stop RX4 0 [some (aR (some 110)), some (aI a), some (aI b)] [] M
  refine v_iload_n 1 dX4_stop_0 rfl rfl ?_
  refine oSv1 (c_X4_isStop (by omega)) k0_X4_isStop ki_X4_isStop ml_X4_67 (vRo_of hxR (by decide) (by decide)) dX4_stop_1 (Nat.le_of_ble_eq_true rfl) ?_
  refine v_if_ne 10 dX4_stop_4 (by decide) (bP_R _) (fun h4 => ?_) (fun h4 => ?_)
  · skip
    have ga := bP_n0.mp h4
    obtain ⟨s, rfl⟩ : ∃ s : Nat, a = ((s : Nat) : Int) := ⟨(a).toNat, by omega⟩
    refine v_iload_n 2 dX4_stop_10 rfl rfl ?_
    refine v_iconst dX4_stop_11 ?_
    refine v_iconst dX4_stop_12 ?_
    refine oSv3 (c_X4_in (by omega) (by decide) (by decide)) k0_X4_in ki_X4_in ml_X4_59 (vRo_of hxR (by decide) (by decide)) dX4_stop_13 (Nat.le_of_ble_eq_true rfl) ?_
    refine v_if_eq 35 dX4_stop_16 (by decide) (bP_R _) (fun h16 => ?_) (fun h16 => ?_)
    · skip
      have gb := bP_0.mp h16
      refine v_ldc (-1000002) kc_X4_72 (by decide) dX4_stop_35 ?_
      refine o_iret hQ hlk hrt dX4_stop_37 ?_
      first | exact ⟨by unfold aStop; rw [if_pos ga, if_pos gb]; rfl, rfl⟩ | exact ⟨by unfold aStop; rw [if_pos ga, if_neg gb], rfl⟩
    · skip
      have gb := bP_n0.mp h16
      obtain ⟨w, rfl⟩ : ∃ w : Nat, b = ((w : Nat) : Int) := ⟨(b).toNat, by omega⟩
      refine v_aload_n 0 dX4_stop_19 rfl rfl ?_
      refine v_getR lk_X4_7 rfl (rfl : SH 110 = _) (mo_0 hLM) dX4_stop_20 ?_
      refine v_bipush dX4_stop_23 (by decide) ?_
      refine v_iconst dX4_stop_25 ?_
      refine v_iload_n 1 dX4_stop_26 rfl rfl ?_
      refine v_imul dX4_stop_27 ?_
      refine v_iadd dX4_stop_28 ?_
      refine v_iload_n 2 dX4_stop_29 rfl rfl ?_
      refine v_iadd dX4_stop_30 ?_
      refine o_iald (j := 24 + 5 * s + w) (u := v (24 + 5 * s + w)) (rfl : SH 111 = _) (by omega) (by omega) (by rw [hv]) dX4_stop_31 ?_
      refine v_goto 37 dX4_stop_32 (by decide) ?_
      refine o_iret hQ hlk hrt dX4_stop_37 ?_
      first | exact ⟨by unfold aStop; rw [if_pos ga, if_pos gb]; rfl, rfl⟩ | exact ⟨by unfold aStop; rw [if_pos ga, if_neg gb], rfl⟩
  · skip
    have ga := bP_0.mp h4
    refine v_ldc (-1000001) kc_X4_71 (by decide) dX4_stop_7 ?_
    refine o_iret hQ hlk hrt dX4_stop_9 ?_
    first | exact ⟨by unfold aStop; rw [if_neg ga], rfl⟩
set_option maxRecDepth 100000 in
set_option maxHeartbeats 400000 in
theorem c_X4_strokes {l : Launch} {G : vGG} {M : Mem} {v : Sg} (hLM : LayM M.2) (hv : M.1 111 = v) (hI : sInv v) {a : Int} (ha : R32 a) : Cv l yX4_strokes cX4_strokes 2 (some .int) (rmo 1 22) G [aR (some 110), aI a] M (some (aI (aStrokes v a))) M := by
  refine Co.ofV (plainFor_of_name (by decide)) rfl rfl ?_
  intro x hxl hxR hlk hrt Q hQ
  show vO x Q G cX4_strokes RX4 0 [some (aR (some 110)), some (aI a)] [] M
  refine v_iload_n 1 dX4_strokes_0 rfl rfl ?_
  refine v_iconst dX4_strokes_1 ?_
  refine v_iconst dX4_strokes_2 ?_
  refine oSv3 (c_X4_in (by omega) (by decide) (by decide)) k0_X4_in ki_X4_in ml_X4_59 (vRo_of hxR (by decide) (by decide)) dX4_strokes_3 (Nat.le_of_ble_eq_true rfl) ?_
  refine v_if_eq 21 dX4_strokes_6 (by decide) (bP_R _) (fun h6 => ?_) (fun h6 => ?_)
  · skip
    have ga := bP_0.mp h6
    refine v_ldc (-1000001) kc_X4_71 (by decide) dX4_strokes_21 ?_
    refine o_iret hQ hlk hrt dX4_strokes_23 ?_
    first | exact ⟨by unfold aStrokes; rw [if_pos ga]; rfl, rfl⟩ | exact ⟨by unfold aStrokes; rw [if_neg ga], rfl⟩
  · skip
    have ga := bP_n0.mp h6
    obtain ⟨s, rfl⟩ : ∃ s : Nat, a = ((s : Nat) : Int) := ⟨(a).toNat, by omega⟩
    refine v_aload_n 0 dX4_strokes_9 rfl rfl ?_
    refine v_getR lk_X4_7 rfl (rfl : SH 110 = _) (mo_0 hLM) dX4_strokes_10 ?_
    refine v_bipush dX4_strokes_13 (by decide) ?_
    refine v_iload_n 1 dX4_strokes_15 rfl rfl ?_
    refine v_iadd dX4_strokes_16 ?_
    refine o_iald (j := 18 + s) (u := v (18 + s)) (rfl : SH 111 = _) (by omega) (by omega) (by rw [hv]) dX4_strokes_17 ?_
    refine v_goto 23 dX4_strokes_18 (by decide) ?_
    refine o_iret hQ hlk hrt dX4_strokes_23 ?_
    first | exact ⟨by unfold aStrokes; rw [if_pos ga]; rfl, rfl⟩ | exact ⟨by unfold aStrokes; rw [if_neg ga], rfl⟩
set_option maxRecDepth 100000 in
set_option maxHeartbeats 400000 in
theorem c_X4_tell {l : Launch} {G : vGG} {M : Mem} {v : Sg} (hLM : LayM M.2) (hv : M.1 111 = v) (hI : sInv v) {a : Int} (ha : R32 a) : Co l yX4_tell cX4_tell 2 (some .int) (rmo 4 91) G [aR (some 110), aI a] M (fun r M' => r = some (aI (aTell v a)) ∧ fr [120, 121, 122, 123, 124, 125] M M') := by
  refine Co.ofV (plainFor_of_name (by decide)) rfl rfl ?_
  intro x hxl hxR hlk hrt Q hQ
  show vO x Q G cX4_tell RX4 0 [some (aR (some 110)), some (aI a)] [] M
  refine v_iload_n 1 dX4_tell_0 rfl rfl ?_
  refine v_iconst dX4_tell_1 ?_
  refine v_bipush dX4_tell_2 (by decide) ?_
  refine oSv3 (c_X4_in (by omega) (by decide) (by decide)) k0_X4_in ki_X4_in ml_X4_59 (vRo_of hxR (by decide) (by decide)) dX4_tell_4 (Nat.le_of_ble_eq_true rfl) ?_
  refine v_if_eq 18 dX4_tell_7 (by decide) (bP_R _) (fun h7 => ?_) (fun h7 => ?_)
  · skip
    have ga := bP_0.mp h7
    refine v_ldc (-1000001) kc_X4_71 (by decide) dX4_tell_18 ?_
    refine o_iret hQ hlk hrt dX4_tell_20 ?_
    first | exact ⟨by unfold aTell; rw [if_pos ga]; rfl, hN⟩ | exact ⟨by unfold aTell; rw [if_neg ga], fr_rf⟩
  · skip
    have ga := bP_n0.mp h7
    obtain ⟨s, rfl⟩ : ∃ s : Nat, a = ((s : Nat) : Int) := ⟨(a).toNat, by omega⟩
    refine v_aload_n 0 dX4_tell_10 rfl rfl ?_
    refine v_iload_n 1 dX4_tell_11 rfl rfl ?_
    refine oVq1 4 (c_X4_tells hLM hv hI (by omega)) k0_X4_tells ki_X4_tells ml_X4_189 (rfl : SH 110 = _) (by decide) (vRo_of hxR (by decide) (by decide)) dX4_tell_12 (Nat.le_of_ble_eq_true rfl) (fun N hN => ?_)
    refine v_goto 20 dX4_tell_15 (by decide) ?_
    refine o_iret hQ hlk hrt dX4_tell_20 ?_
    first | exact ⟨by unfold aTell; rw [if_pos ga]; rfl, hN⟩ | exact ⟨by unfold aTell; rw [if_neg ga], fr_rf⟩
set_option maxRecDepth 100000 in
set_option maxHeartbeats 400000 in
theorem c_X4_search {l : Launch} {G : vGG} {M : Mem} {v : Sg} (hLM : LayM M.2) (hv : M.1 111 = v) (hI : sInv v) {a : Int} (ha : R32 a) : Co l yX4_search cX4_search 2 (some .int) (rmo 5 118) G [aR (some 110), aI a] M (fun r M' => r = some (aI (aSearch v a)) ∧ fr [120, 121, 122, 123, 124, 125] M M') := by
  refine Co.ofV (plainFor_of_name (by decide)) rfl rfl ?_
  intro x hxl hxR hlk hrt Q hQ
  show vO x Q G cX4_search RX4 0 [some (aR (some 110)), some (aI a)] [] M
  refine v_iload_n 1 dX4_search_0 rfl rfl ?_
  refine v_iconst dX4_search_1 ?_
  refine v_iconst dX4_search_2 ?_
  refine oSv3 (c_X4_in (by omega) (by decide) (by decide)) k0_X4_in ki_X4_in ml_X4_59 (vRo_of hxR (by decide) (by decide)) dX4_search_3 (Nat.le_of_ble_eq_true rfl) ?_
  refine v_if_eq 17 dX4_search_6 (by decide) (bP_R _) (fun h6 => ?_) (fun h6 => ?_)
  · skip
    have ga := bP_0.mp h6
    refine v_ldc (-1000001) kc_X4_71 (by decide) dX4_search_17 ?_
    refine o_iret hQ hlk hrt dX4_search_19 ?_
    first | exact ⟨by unfold aSearch; rw [if_pos ga]; rfl, hN⟩ | exact ⟨by unfold aSearch; rw [if_neg ga], fr_rf⟩
  · skip
    have ga := bP_n0.mp h6
    obtain ⟨s, rfl⟩ : ∃ s : Nat, a = ((s : Nat) : Int) := ⟨(a).toNat, by omega⟩
    refine v_aload_n 0 dX4_search_9 rfl rfl ?_
    refine v_iload_n 1 dX4_search_10 rfl rfl ?_
    refine oVq1 4 (c_X4_searches hLM hv hI (by omega)) k0_X4_searches ki_X4_searches ml_X4_213 (rfl : SH 110 = _) (by decide) (vRo_of hxR (by decide) (by decide)) dX4_search_11 (Nat.le_of_ble_eq_true rfl) (fun N hN => ?_)
    refine v_goto 19 dX4_search_14 (by decide) ?_
    refine o_iret hQ hlk hrt dX4_search_19 ?_
    first | exact ⟨by unfold aSearch; rw [if_pos ga]; rfl, hN⟩ | exact ⟨by unfold aSearch; rw [if_neg ga], fr_rf⟩
set_option maxRecDepth 100000 in
set_option maxHeartbeats 400000 in
theorem c_X4_chest {l : Launch} {G : vGG} {M : Mem} {v : Sg} (hLM : LayM M.2) (hv : M.1 111 = v) (hI : sInv v) {a b : Int} (ha : R32 a) (hb : R32 b) : Co l yX4_chest cX4_chest 3 (some .int) (rmo 4 92) G [aR (some 110), aI a, aI b] M (fun r M' => r = some (aI (aChest v a b)) ∧ fr [120, 121, 122, 123, 124, 125] M M') := by
  refine Co.ofV (plainFor_of_name (by decide)) rfl rfl ?_
  intro x hxl hxR hlk hrt Q hQ
  show vO x Q G cX4_chest RX4 0 [some (aR (some 110)), some (aI a), some (aI b)] [] M
  refine v_iload_n 1 dX4_chest_0 rfl rfl ?_
  refine v_iconst dX4_chest_1 ?_
  refine v_iconst dX4_chest_2 ?_
  refine oSv3 (c_X4_in (by omega) (by decide) (by decide)) k0_X4_in ki_X4_in ml_X4_59 (vRo_of hxR (by decide) (by decide)) dX4_chest_3 (Nat.le_of_ble_eq_true rfl) ?_
  refine v_if_ne 12 dX4_chest_6 (by decide) (bP_R _) (fun h6 => ?_) (fun h6 => ?_)
  · skip
    have ga := bP_n0.mp h6
    obtain ⟨s, rfl⟩ : ∃ s : Nat, a = ((s : Nat) : Int) := ⟨(a).toNat, by omega⟩
    refine v_iload_n 2 dX4_chest_12 rfl rfl ?_
    refine v_iconst dX4_chest_13 ?_
    refine v_iconst dX4_chest_14 ?_
    refine oSv3 (c_X4_in (by omega) (by decide) (by decide)) k0_X4_in ki_X4_in ml_X4_59 (vRo_of hxR (by decide) (by decide)) dX4_chest_15 (Nat.le_of_ble_eq_true rfl) ?_
    refine v_if_eq 30 dX4_chest_18 (by decide) (bP_R _) (fun h18 => ?_) (fun h18 => ?_)
    · skip
      have gb := bP_0.mp h18
      refine v_ldc (-1000002) kc_X4_72 (by decide) dX4_chest_30 ?_
      refine o_iret hQ hlk hrt dX4_chest_32 ?_
      first | exact ⟨by unfold aChest; rw [if_pos ga, if_pos gb]; rfl, hN⟩ | exact ⟨by unfold aChest; rw [if_pos ga, if_neg gb], fr_rf⟩
    · skip
      have gb := bP_n0.mp h18
      obtain ⟨w, rfl⟩ : ∃ w : Nat, b = ((w : Nat) : Int) := ⟨(b).toNat, by omega⟩
      refine v_aload_n 0 dX4_chest_21 rfl rfl ?_
      refine v_iload_n 1 dX4_chest_22 rfl rfl ?_
      refine v_iload_n 2 dX4_chest_23 rfl rfl ?_
      refine oVq2 4 (c_X4_chestTells hLM hv hI (by omega) (by omega)) k0_X4_chestTells ki_X4_chestTells ml_X4_192 (rfl : SH 110 = _) (by decide) (vRo_of hxR (by decide) (by decide)) dX4_chest_24 (Nat.le_of_ble_eq_true rfl) (fun N hN => ?_)
      refine v_goto 32 dX4_chest_27 (by decide) ?_
      refine o_iret hQ hlk hrt dX4_chest_32 ?_
      first | exact ⟨by unfold aChest; rw [if_pos ga, if_pos gb]; rfl, hN⟩ | exact ⟨by unfold aChest; rw [if_pos ga, if_neg gb], fr_rf⟩
  · skip
    have ga := bP_0.mp h6
    refine v_ldc (-1000001) kc_X4_71 (by decide) dX4_chest_9 ?_
    refine o_iret hQ hlk hrt dX4_chest_11 ?_
    first | exact ⟨by unfold aChest; rw [if_neg ga], fr_rf⟩
set_option maxRecDepth 100000 in
set_option maxHeartbeats 400000 in
theorem c_X4_pipe {l : Launch} {G : vGG} {M : Mem} {v : Sg} (hLM : LayM M.2) (hv : M.1 111 = v) (hI : sInv v) {a b c : Int} (ha : R32 a) (hb : R32 b) (hc : R32 c) : Co l yX4_pipe cX4_pipe 4 (some .int) (rmo 4 94) G [aR (some 110), aI a, aI b, aI c] M (fun r M' => r = some (aI (aPipe v a b c)) ∧ fr [120, 121, 122, 123, 124, 125] M M') := by
  refine Co.ofV (plainFor_of_name (by decide)) rfl rfl ?_
  intro x hxl hxR hlk hrt Q hQ
  show vO x Q G cX4_pipe RX4 0 [some (aR (some 110)), some (aI a), some (aI b), some (aI c)] [] M
  refine v_iload_n 1 dX4_pipe_0 rfl rfl ?_
  refine oSv1 (c_X4_isStop (by omega)) k0_X4_isStop ki_X4_isStop ml_X4_67 (vRo_of hxR (by decide) (by decide)) dX4_pipe_1 (Nat.le_of_ble_eq_true rfl) ?_
  refine v_if_eq 14 dX4_pipe_4 (by decide) (bP_R _) (fun h4 => ?_) (fun h4 => ?_)
  · skip
    have ga := bP_0.mp h4
    refine v_ldc (-1000001) kc_X4_71 (by decide) dX4_pipe_14 ?_
    refine o_iret hQ hlk hrt dX4_pipe_16 ?_
    first | exact ⟨by unfold aPipe; rw [if_neg ga], fr_rf⟩ | exact ⟨by unfold aPipe; rw [if_pos ga, if_neg gb], fr_rf⟩
  · skip
    have ga := bP_n0.mp h4
    obtain ⟨s, rfl⟩ : ∃ s : Nat, a = ((s : Nat) : Int) := ⟨(a).toNat, by omega⟩
    refine v_iload_n 2 dX4_pipe_7 rfl rfl ?_
    refine oSv1 (c_X4_isKey (by omega)) k0_X4_isKey ki_X4_isKey ml_X4_84 (vRo_of hxR (by decide) (by decide)) dX4_pipe_8 (Nat.le_of_ble_eq_true rfl) ?_
    refine v_if_ne 17 dX4_pipe_11 (by decide) (bP_R _) (fun h11 => ?_) (fun h11 => ?_)
    · skip
      have gb := bP_n0.mp h11
      obtain ⟨k, rfl⟩ : ∃ k : Nat, b = ((k : Nat) : Int) := ⟨(b).toNat, by omega⟩
      refine v_iload_n 3 dX4_pipe_17 rfl rfl ?_
      refine v_iconst dX4_pipe_18 ?_
      refine v_iconst dX4_pipe_19 ?_
      refine oSv3 (c_X4_in (by omega) (by decide) (by decide)) k0_X4_in ki_X4_in ml_X4_59 (vRo_of hxR (by decide) (by decide)) dX4_pipe_20 (Nat.le_of_ble_eq_true rfl) ?_
      refine v_if_eq 36 dX4_pipe_23 (by decide) (bP_R _) (fun h23 => ?_) (fun h23 => ?_)
      · skip
        have gc := bP_0.mp h23
        refine v_ldc (-1000002) kc_X4_72 (by decide) dX4_pipe_36 ?_
        refine o_iret hQ hlk hrt dX4_pipe_38 ?_
        first | exact ⟨by unfold aPipe; rw [if_pos ga, if_pos gb, if_pos gc]; rfl, hN⟩ | exact ⟨by unfold aPipe; rw [if_pos ga, if_pos gb, if_neg gc], fr_rf⟩
      · skip
        have gc := bP_n0.mp h23
        obtain ⟨w, rfl⟩ : ∃ w : Nat, c = ((w : Nat) : Int) := ⟨(c).toNat, by omega⟩
        refine v_aload_n 0 dX4_pipe_26 rfl rfl ?_
        refine v_iload_n 1 dX4_pipe_27 rfl rfl ?_
        refine v_iload_n 2 dX4_pipe_28 rfl rfl ?_
        refine v_iload_n 3 dX4_pipe_29 rfl rfl ?_
        refine oVq3 4 (c_X4_pipeTells hLM hv hI (by omega) (by omega) (by omega)) k0_X4_pipeTells ki_X4_pipeTells ml_X4_198 (rfl : SH 110 = _) (by decide) (vRo_of hxR (by decide) (by decide)) dX4_pipe_30 (Nat.le_of_ble_eq_true rfl) (fun N hN => ?_)
        refine v_goto 38 dX4_pipe_33 (by decide) ?_
        refine o_iret hQ hlk hrt dX4_pipe_38 ?_
        first | exact ⟨by unfold aPipe; rw [if_pos ga, if_pos gb, if_pos gc]; rfl, hN⟩ | exact ⟨by unfold aPipe; rw [if_pos ga, if_pos gb, if_neg gc], fr_rf⟩
    · skip
      have gb := bP_0.mp h11
      refine v_ldc (-1000001) kc_X4_71 (by decide) dX4_pipe_14 ?_
      refine o_iret hQ hlk hrt dX4_pipe_16 ?_
      first | exact ⟨by unfold aPipe; rw [if_neg ga], fr_rf⟩ | exact ⟨by unfold aPipe; rw [if_pos ga, if_neg gb], fr_rf⟩
set_option maxRecDepth 100000 in
set_option maxHeartbeats 400000 in
theorem c_X4_reason {l : Launch} {G : vGG} {M : Mem} {v : Sg} (hLM : LayM M.2) (hv : M.1 111 = v) (hI : sInv v) {a b : Int} (ha : R32 a) (hb : R32 b) : Co l yX4_reason cX4_reason 3 (some .int) (rmo 4 92) G [aR (some 110), aI a, aI b] M (fun r M' => r = some (aI (aReason v a b)) ∧ fr [120, 121, 122, 123, 124, 125] M M') := by
  refine Co.ofV (plainFor_of_name (by decide)) rfl rfl ?_
  intro x hxl hxR hlk hrt Q hQ
  show vO x Q G cX4_reason RX4 0 [some (aR (some 110)), some (aI a), some (aI b)] [] M
  refine v_iload_n 1 dX4_reason_0 rfl rfl ?_
  refine oSv1 (c_X4_isStop (by omega)) k0_X4_isStop ki_X4_isStop ml_X4_67 (vRo_of hxR (by decide) (by decide)) dX4_reason_1 (Nat.le_of_ble_eq_true rfl) ?_
  refine v_if_eq 23 dX4_reason_4 (by decide) (bP_R _) (fun h4 => ?_) (fun h4 => ?_)
  · skip
    have ga := bP_0.mp h4
    refine v_ldc (-1000001) kc_X4_71 (by decide) dX4_reason_23 ?_
    refine o_iret hQ hlk hrt dX4_reason_25 ?_
    first | exact ⟨by unfold aReason; rw [if_pos ga, if_pos gb]; rfl, hN⟩ | exact ⟨by unfold aReason; rw [if_neg ga], fr_rf⟩ | exact ⟨by unfold aReason; rw [if_pos ga, if_neg gb], fr_rf⟩
  · skip
    have ga := bP_n0.mp h4
    obtain ⟨s, rfl⟩ : ∃ s : Nat, a = ((s : Nat) : Int) := ⟨(a).toNat, by omega⟩
    refine v_iload_n 2 dX4_reason_7 rfl rfl ?_
    refine oSv1 (c_X4_isKey (by omega)) k0_X4_isKey ki_X4_isKey ml_X4_84 (vRo_of hxR (by decide) (by decide)) dX4_reason_8 (Nat.le_of_ble_eq_true rfl) ?_
    refine v_if_eq 23 dX4_reason_11 (by decide) (bP_R _) (fun h11 => ?_) (fun h11 => ?_)
    · skip
      have gb := bP_0.mp h11
      refine v_ldc (-1000001) kc_X4_71 (by decide) dX4_reason_23 ?_
      refine o_iret hQ hlk hrt dX4_reason_25 ?_
      first | exact ⟨by unfold aReason; rw [if_pos ga, if_pos gb]; rfl, hN⟩ | exact ⟨by unfold aReason; rw [if_neg ga], fr_rf⟩ | exact ⟨by unfold aReason; rw [if_pos ga, if_neg gb], fr_rf⟩
    · skip
      have gb := bP_n0.mp h11
      obtain ⟨k, rfl⟩ : ∃ k : Nat, b = ((k : Nat) : Int) := ⟨(b).toNat, by omega⟩
      refine v_aload_n 0 dX4_reason_14 rfl rfl ?_
      refine v_iload_n 1 dX4_reason_15 rfl rfl ?_
      refine v_iload_n 2 dX4_reason_16 rfl rfl ?_
      refine oVq2 4 (c_X4_reasonNow hLM hv hI (by omega) (by omega)) k0_X4_reasonNow ki_X4_reasonNow ml_X4_201 (rfl : SH 110 = _) (by decide) (vRo_of hxR (by decide) (by decide)) dX4_reason_17 (Nat.le_of_ble_eq_true rfl) (fun N hN => ?_)
      obtain ⟨hN, -⟩ := hN
      refine v_goto 25 dX4_reason_20 (by decide) ?_
      refine o_iret hQ hlk hrt dX4_reason_25 ?_
      first | exact ⟨by unfold aReason; rw [if_pos ga, if_pos gb]; rfl, hN⟩ | exact ⟨by unfold aReason; rw [if_neg ga], fr_rf⟩ | exact ⟨by unfold aReason; rw [if_pos ga, if_neg gb], fr_rf⟩
theorem ro_o {v : Sg} (hI : sInv v) {s : Nat} (hs : s < 8) : vor ((sDrw v : Nat) : Int) (vshl 1 (s : Int)) = ((sDrw v ||| 2 ^ s : Nat) : Int) ∧ (sDrw v ||| 2 ^ s) < 256 := by
  have hd := sDrw_lt hI
  have hp : 2 ^ s < 2 ^ 8 := Nat.pow_lt_pow_right (by decide) hs
  have e : vshl 1 ((s : Nat) : Int) = ((2 ^ s : Nat) : Int) := by
    rw [nu_shl (by decide) (by omega) (by show 1 * 2 ^ s < _; omega)]
    show ((1 * 2 ^ s : Nat) : Int) = _
    rw [Nat.one_mul]
  refine ⟨?_, Nat.or_lt_two_pow (n := 8) hd hp⟩
  rw [e, nu_or (by omega) (by omega) (Int.natCast_nonneg _) (by omega), Int.toNat_natCast, Int.toNat_natCast]
theorem ro_1 {v : Sg} {st2 p : Nat} (h1 : sRs v (sDrw v) true (p / 24) (p % 24) = 0) (h2 : ¬ sRs v st2 true (p / 24) (p % 24) = 0) : ((sRob v st2 p : Nat) : Int) + 1 = ((sRob v st2 (p + 1) : Nat) : Int) := by rw [sRob, if_pos ⟨h1, h2⟩]; omega
theorem ro_2 {v : Sg} {st2 p : Nat} (h1 : ¬ sRs v (sDrw v) true (p / 24) (p % 24) = 0) : ((sRob v st2 p : Nat) : Int) + 0 = ((sRob v st2 (p + 1) : Nat) : Int) := by rw [sRob, if_neg (fun h => h1 h.1)]; omega
theorem ro_3 {v : Sg} {st2 p : Nat} (h2 : sRs v st2 true (p / 24) (p % 24) = 0) : ((sRob v st2 p : Nat) : Int) + 0 = ((sRob v st2 (p + 1) : Nat) : Int) := by rw [sRob, if_neg (fun h => h.2 h2)]; omega
theorem fr_mono {L L2 : List Nat} {M M2 : Mem} (h : fr L M M2) (hs : ∀ i, i ∈ L → i ∈ L2) : fr L2 M M2 := ⟨h.1, fun i hi => h.2 i (fun e => hi (hs i e))⟩
theorem SC.keep {v : Sg} {st : Nat} {pr : Bool} {M M' : Mem} (h : SC v st pr M) (e : ∀ i, 120 ≤ i → i < 126 → M'.1 i = M.1 i) : SC v st pr M' := by
  unfold SC SC4 at *
  rw [e 120 (by decide) (by decide), e 121 (by decide) (by decide), e 122 (by decide) (by decide), e 123 (by decide) (by decide), e 124 (by decide) (by decide), e 125 (by decide) (by decide)]
  exact h
theorem ro_p {v : Sg} {f : Nat → Nat → Int} {p : Nat} {z : Int} (hp : ∀ q, q < p → f 126 q = bP (sRs v (sDrw v) true (q / 24) (q % 24) = 0)) (hz : z = bP (sRs v (sDrw v) true (p / 24) (p % 24) = 0)) : ∀ q, q < p + 1 → vup f 126 p z 126 q = bP (sRs v (sDrw v) true (q / 24) (q % 24) = 0) := by
  intro q hq
  rw [vup_in]
  by_cases h : q = p
  · rw [if_pos h, hz, h]
  · rw [if_neg h]
    exact hp q (by omega)
set_option maxRecDepth 100000 in
set_option maxHeartbeats 400000 in
theorem c_X4_robbed {l : Launch} {G : vGG} {M : Mem} {v : Sg} (hLM : LayM M.2) (hv : M.1 111 = v) (hI : sInv v) {a : Int} (ha : R32 a) : Co l yX4_robbed cX4_robbed 5 (some .int) (rmo 3 70) G [aR (some 110), aI a] M (fun r M' => r = some (aI (aRob v a)) ∧ fr [120, 121, 122, 123, 124, 125, 126] M M') := by
  refine Co.ofV (plainFor_of_name (by decide)) rfl rfl ?_
  intro x hxl hxR hlk hrt Q hQ
  show vO x Q G cX4_robbed RX4 0 [some (aR (some 110)), some (aI a), none, none, none] [] M
  refine v_iload_n 1 dX4_robbed_0 rfl rfl ?_
  refine oSv1 (c_X4_isStop (by omega)) k0_X4_isStop ki_X4_isStop ml_X4_67 (vRo_of hxR (by decide) (by decide)) dX4_robbed_1 (Nat.le_of_ble_eq_true rfl) ?_
  refine v_if_ne 10 dX4_robbed_4 (by decide) (bP_R _) (fun h4 => ?_) (fun h4 => ?_)
  · skip
    have ga := bP_n0.mp h4
    obtain ⟨s, rfl⟩ : ∃ s : Nat, a = ((s : Nat) : Int) := ⟨(a).toNat, by omega⟩
    refine v_aload_n 0 dX4_robbed_10 rfl rfl ?_
    have hst := sDrw_lt hI
    refine oVv0 4 (c_X4_drawn hLM hv hI) k0_X4_drawn ki_X4_drawn ml_X4_96 (rfl : SH 110 = _) (by decide) (vRo_of hxR (by decide) (by decide)) dX4_robbed_11 (Nat.le_of_ble_eq_true rfl) ?_
    refine v_ist2 dX4_robbed_14 rfl ?_
    refine v_iload_n 2 dX4_robbed_15 rfl rfl ?_
    refine v_iload_n 1 dX4_robbed_16 rfl rfl ?_
    refine v_ishr dX4_robbed_17 ?_
    refine v_iconst dX4_robbed_18 ?_
    refine v_iand dX4_robbed_19 ?_
    refine o_eqI (nu_bitN (n := sDrw v) (by omega) (by omega)) ?_
    refine v_iconst dX4_robbed_20 ?_
    refine v_icmp_ne 27 dX4_robbed_21 (by decide) (bP_R _) (by decide) (fun h21 => ?_) (fun h21 => ?_)
    · skip
      have gb := mt bP_1.mpr h21
      refine v_aload_n 0 dX4_robbed_27 rfl rfl ?_
      refine oVm0 4 (c_X4_laysNow hLM hv hI) k0_X4_laysNow ki_X4_laysNow ml_X4_131 (rfl : SH 110 = _) (by decide) (vRo_of hxR (by decide) (by decide)) dX4_robbed_28 (Nat.le_of_ble_eq_true rfl) (fun N hN => ?_)
      obtain ⟨hF0, hC0⟩ := hN
      have hF := fr_mono (L2 := [120, 121, 122, 123, 124, 125, 126]) hF0 (by decide)
      refine v_iconst dX4_robbed_31 ?_
      refine v_ist3 dX4_robbed_32 rfl ?_
      have lp33 : ∀ (dd p : Nat) (K : Mem) (c4 : Option AV), p + dd = 192 → fr [120, 121, 122, 123, 124, 125, 126] M K → SC v (sDrw v) true K → (∀ q, q < p → K.1 126 q = bP (sRs v (sDrw v) true (q / 24) (q % 24) = 0)) → vO x Q G cX4_robbed RX4 33 [some (aR (some 110)), some (aI (s : Int)), some (aI ((sDrw v : Nat) : Int)), some (aI (p : Int)), c4] [] K := by
        intro dd
        induction dd with
        | zero =>
          intro p K c4 hd hF hC hp
          obtain rfl : p = 192 := by omega
          have hLK := fr_lay hF hLM
          have hvK : K.1 111 = v := (hF.2 111 (by decide)).trans hv
          refine v_iload_n 3 dX4_robbed_33 rfl rfl ?_
          refine v_sipush dX4_robbed_34 (by decide) ?_
          refine v_icmp_ge 73 dX4_robbed_37 (by decide) (by omega) (by decide) (fun h37 => ?_) (fun h37 => ?_)
          · skip
            refine v_iload_n 2 dX4_robbed_73 rfl rfl ?_
            refine v_iconst dX4_robbed_74 ?_
            refine v_iload_n 1 dX4_robbed_75 rfl rfl ?_
            refine v_ishl dX4_robbed_76 ?_
            refine v_ior dX4_robbed_77 ?_
            refine o_eqI (ro_o hI (show s < 8 by omega)).1 ?_
            have hs2 := (ro_o hI (show s < 8 by omega)).2
            refine v_ist2 dX4_robbed_78 rfl ?_
            refine v_aload_n 0 dX4_robbed_79 rfl rfl ?_
            refine v_iload_n 2 dX4_robbed_80 rfl rfl ?_
            refine v_iconst dX4_robbed_81 ?_
            refine oVm2 4 (c_X4_lays_t hLK hvK hI hs2) k0_X4_lays ki_X4_lays ml_X4_117 (rfl : SH 110 = _) (by decide) (vRo_of hxR (by decide) (by decide)) dX4_robbed_82 (Nat.le_of_ble_eq_true rfl) (fun N hN => ?_)
            obtain ⟨hF3, hC3⟩ := hN
            have hF4 := fr_tr hF hF3 (by decide)
            have hLN := fr_lay hF4 hLM
            have hvN : N.1 111 = v := (hF4.2 111 (by decide)).trans hv
            have hpN : ∀ q, q < 192 → N.1 126 q = bP (sRs v (sDrw v) true (q / 24) (q % 24) = 0) := fun q hq => by rw [hF3.2 126 (by decide)]; exact hp q hq
            refine v_iconst dX4_robbed_85 ?_
            refine v_ist3 dX4_robbed_86 rfl ?_
            refine v_iconst dX4_robbed_87 ?_
            refine v_ist4 dX4_robbed_88 rfl ?_
            have lp90 : ∀ (dd p : Nat), p + dd = 192 → vO x Q G cX4_robbed RX4 90 [some (aR (some 110)), some (aI (s : Int)), some (aI ((sDrw v ||| 2 ^ s : Nat) : Int)), some (aI ((sRob v (sDrw v ||| 2 ^ s) p : Nat) : Int)), some (aI (p : Int))] [] N := by
              intro dd
              induction dd with
              | zero =>
                intro p hd
                obtain rfl : p = 192 := by omega
                refine v_iload dX4_robbed_90 rfl ?_
                refine v_sipush dX4_robbed_92 (by decide) ?_
                refine v_icmp_ge 140 dX4_robbed_95 (by decide) (by omega) (by decide) (fun h95 => ?_) (fun h95 => ?_)
                · skip
                  refine v_iload_n 3 dX4_robbed_140 rfl rfl ?_
                  refine o_iret hQ hlk hrt dX4_robbed_141 ?_
                  exact ⟨by unfold aRob; rw [if_pos ga, Int.toNat_natCast, if_neg gb], hF4⟩
                · skip
                  exact absurd h95 (by omega)
              | succ dd ih =>
                intro p hd
                refine v_iload dX4_robbed_90 rfl ?_
                refine v_sipush dX4_robbed_92 (by decide) ?_
                refine v_icmp_ge 140 dX4_robbed_95 (by decide) (by omega) (by decide) (fun h95 => ?_) (fun h95 => ?_)
                · skip
                  exact absurd h95 (by omega)
                · skip
                  refine v_iload_n 3 dX4_robbed_98 rfl rfl ?_
                  refine v_aload_n 0 dX4_robbed_99 rfl rfl ?_
                  refine v_getR lk_X4_56 rfl (rfl : SH 110 = _) (mo_21 hLN) dX4_robbed_100 ?_
                  refine v_iload dX4_robbed_103 rfl ?_
                  refine o_zald (j := p) (u := bP (sRs v (sDrw v) true (p / 24) (p % 24) = 0)) (rfl : SH 126 = _) (by omega) (by omega) (hpN _ (by omega)) dX4_robbed_105 ?_
                  refine v_if_eq 131 dX4_robbed_106 (by decide) (bP_R _) (fun h106 => ?_) (fun h106 => ?_)
                  · skip
                    refine v_iconst dX4_robbed_131 ?_
                    refine v_iadd dX4_robbed_132 ?_
                    refine o_eqI (u := ((sRob v (sDrw v ||| 2 ^ s) (p + 1) : Nat) : Int)) (by first | with_reducible exact ro_2 (bP_0.mp h106) | with_reducible exact ro_3 h124 | with_reducible exact ro_1 (bP_n0.mp h106) h124) ?_
                    refine v_ist3 dX4_robbed_133 rfl ?_
                    refine v_iinc4 dX4_robbed_134 rfl ?_
                    refine v_goto 90 dX4_robbed_137 (by decide) ?_
                    exact ih (p + 1) (by omega)
                  · skip
                    refine v_aload_n 0 dX4_robbed_109 rfl rfl ?_
                    refine v_iload dX4_robbed_110 rfl ?_
                    refine v_bipush dX4_robbed_112 (by decide) ?_
                    refine v_idiv dX4_robbed_114 (by omega) (by decide) (by omega) ?_
                    refine o_eqI (u := ((p / 24 : Nat) : Int)) (dv_n p 24) ?_
                    refine v_iload dX4_robbed_115 rfl ?_
                    refine v_bipush dX4_robbed_117 (by decide) ?_
                    refine v_irem dX4_robbed_119 (by omega) (by decide) (by omega) ?_
                    refine o_eqI (u := ((p % 24 : Nat) : Int)) (md_n p 24) ?_
                    refine v_iload_n 2 dX4_robbed_120 rfl rfl ?_
                    refine oVv3 4 (c_X4_reasonOf hLN hvN hI hC3 hs2 (by omega) (by omega)) k0_X4_reasonOf ki_X4_reasonOf ml_X4_179 (rfl : SH 110 = _) (by decide) (vRo_of hxR (by decide) (by decide)) dX4_robbed_121 (Nat.le_of_ble_eq_true rfl) ?_
                    have hrb := sRs_b v (sDrw v ||| 2 ^ s) true (p / 24) (p % 24)
                    refine v_if_eq 131 dX4_robbed_124 (by decide) (by omega) (fun h124 => ?_) (fun h124 => ?_)
                    · skip
                      refine v_iconst dX4_robbed_131 ?_
                      refine v_iadd dX4_robbed_132 ?_
                      refine o_eqI (u := ((sRob v (sDrw v ||| 2 ^ s) (p + 1) : Nat) : Int)) (by first | with_reducible exact ro_2 (bP_0.mp h106) | with_reducible exact ro_3 h124 | with_reducible exact ro_1 (bP_n0.mp h106) h124) ?_
                      refine v_ist3 dX4_robbed_133 rfl ?_
                      refine v_iinc4 dX4_robbed_134 rfl ?_
                      refine v_goto 90 dX4_robbed_137 (by decide) ?_
                      exact ih (p + 1) (by omega)
                    · skip
                      refine v_iconst dX4_robbed_127 ?_
                      refine v_goto 132 dX4_robbed_128 (by decide) ?_
                      refine v_iadd dX4_robbed_132 ?_
                      refine o_eqI (u := ((sRob v (sDrw v ||| 2 ^ s) (p + 1) : Nat) : Int)) (by first | with_reducible exact ro_2 (bP_0.mp h106) | with_reducible exact ro_3 h124 | with_reducible exact ro_1 (bP_n0.mp h106) h124) ?_
                      refine v_ist3 dX4_robbed_133 rfl ?_
                      refine v_iinc4 dX4_robbed_134 rfl ?_
                      refine v_goto 90 dX4_robbed_137 (by decide) ?_
                      exact ih (p + 1) (by omega)
            exact lp90 192 0 rfl
          · skip
            exact absurd h37 (by omega)
        | succ dd ih =>
          intro p K c4 hd hF hC hp
          have hLK := fr_lay hF hLM
          have hvK : K.1 111 = v := (hF.2 111 (by decide)).trans hv
          refine v_iload_n 3 dX4_robbed_33 rfl rfl ?_
          refine v_sipush dX4_robbed_34 (by decide) ?_
          refine v_icmp_ge 73 dX4_robbed_37 (by decide) (by omega) (by decide) (fun h37 => ?_) (fun h37 => ?_)
          · skip
            exact absurd h37 (by omega)
          · skip
            refine v_aload_n 0 dX4_robbed_40 rfl rfl ?_
            refine v_getR lk_X4_56 rfl (rfl : SH 110 = _) (mo_21 hLK) dX4_robbed_41 ?_
            refine v_iload_n 3 dX4_robbed_44 rfl rfl ?_
            refine v_aload_n 0 dX4_robbed_45 rfl rfl ?_
            refine v_iload_n 3 dX4_robbed_46 rfl rfl ?_
            refine v_bipush dX4_robbed_47 (by decide) ?_
            refine v_idiv dX4_robbed_49 (by omega) (by decide) (by omega) ?_
            refine o_eqI (u := ((p / 24 : Nat) : Int)) (dv_n p 24) ?_
            refine v_iload_n 3 dX4_robbed_50 rfl rfl ?_
            refine v_bipush dX4_robbed_51 (by decide) ?_
            refine v_irem dX4_robbed_53 (by omega) (by decide) (by omega) ?_
            refine o_eqI (u := ((p % 24 : Nat) : Int)) (md_n p 24) ?_
            refine v_iload_n 2 dX4_robbed_54 rfl rfl ?_
            refine oVv3 4 (c_X4_reasonOf hLK hvK hI hC hst (by omega) (by omega)) k0_X4_reasonOf ki_X4_reasonOf ml_X4_179 (rfl : SH 110 = _) (by decide) (vRo_of hxR (by decide) (by decide)) dX4_robbed_55 (Nat.le_of_ble_eq_true rfl) ?_
            have hrb := sRs_b v (sDrw v) true (p / 24) (p % 24)
            refine v_if_ne 65 dX4_robbed_58 (by decide) (by omega) (fun h58 => ?_) (fun h58 => ?_)
            · skip
              refine v_iconst dX4_robbed_65 ?_
              refine o_zast (j := p) (by decide) (by omega) (rfl : SH 126 = _) (by omega) (by omega) dX4_robbed_66 ?_
              refine v_iinc3 dX4_robbed_67 rfl ?_
              refine v_goto 33 dX4_robbed_70 (by decide) ?_
              first | exact ih (p + 1) (vup K.1 126 p 0, K.2) _ (by omega) (fr_up hF (by decide) _ _) (hC.keep (fun i a b => by funext t; exact vup_nid _ _ _ (by omega))) (ro_p (z := 0) hp (bP_f h58).symm) | exact ih (p + 1) (vup K.1 126 p 1, K.2) _ (by omega) (fr_up hF (by decide) _ _) (hC.keep (fun i a b => by funext t; exact vup_nid _ _ _ (by omega))) (ro_p (z := 1) hp (bP_t h58).symm)
            · skip
              refine v_iconst dX4_robbed_61 ?_
              refine v_goto 66 dX4_robbed_62 (by decide) ?_
              refine o_zast (j := p) (by decide) (by omega) (rfl : SH 126 = _) (by omega) (by omega) dX4_robbed_66 ?_
              refine v_iinc3 dX4_robbed_67 rfl ?_
              refine v_goto 33 dX4_robbed_70 (by decide) ?_
              first | exact ih (p + 1) (vup K.1 126 p 0, K.2) _ (by omega) (fr_up hF (by decide) _ _) (hC.keep (fun i a b => by funext t; exact vup_nid _ _ _ (by omega))) (ro_p (z := 0) hp (bP_f h58).symm) | exact ih (p + 1) (vup K.1 126 p 1, K.2) _ (by omega) (fr_up hF (by decide) _ _) (hC.keep (fun i a b => by funext t; exact vup_nid _ _ _ (by omega))) (ro_p (z := 1) hp (bP_t h58).symm)
      exact lp33 192 0 _ _ rfl hF hC0 (fun q hq => absurd hq (by omega))
    · skip
      have gb := bP_1.mp h21
      refine v_ldc (-1000003) kc_X4_178 (by decide) dX4_robbed_24 ?_
      refine o_iret hQ hlk hrt dX4_robbed_26 ?_
      exact ⟨by unfold aRob; rw [if_pos ga, Int.toNat_natCast, if_pos gb], fr_rf⟩
  · skip
    have ga := bP_0.mp h4
    refine v_ldc (-1000001) kc_X4_71 (by decide) dX4_robbed_7 ?_
    refine o_iret hQ hlk hrt dX4_robbed_9 ?_
    first | exact ⟨by unfold aRob; rw [if_neg ga], fr_rf⟩
