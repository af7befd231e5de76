/-! ===== the twin: changes that are recorded ===== -/
def mL : List Nat := [111, 112, 120, 121, 122, 123, 124, 125, 126]
/-- v was recorded, and now the row is w -/
def mOp (n : Nat) (v w : Sg) (M M' : Mem) : Prop := ∃ K : Mem, mRec n v M K ∧ fr mL K M' ∧ M'.1 111 = w
def oPost (n : Nat) (v : Sg) (M : Mem) (good : Prop) (ans err : Int) (w : Sg) (r : Option AV) (M' : Mem) : Prop := (good → r = some (aI ans) ∧ mOp n v w M M') ∧ (¬ good → r = some (aI err) ∧ M' = M)
theorem oPost.y {n : Nat} {v : Sg} {M : Mem} {good : Prop} {ans err : Int} {w w2 : Sg} {r : Option AV} {K M' : Mem} (g : good) (hr : r = some (aI ans)) (h1 : mRec n v M K) (h2 : fr mL K M') (h3 : M'.1 111 = w2) (h4 : w2 = w) : oPost n v M good ans err w r M' := ⟨fun _ => ⟨hr, K, h1, h2, h3.trans h4⟩, fun q => absurd g q⟩
theorem oPost.n {n : Nat} {v : Sg} {M : Mem} {good : Prop} {ans err : Int} {w : Sg} {r : Option AV} (g : ¬ good) (hr : r = some (aI err)) : oPost n v M good ans err w r M := ⟨fun q => absurd q g, fun _ => ⟨hr, rfl⟩⟩
def tLo : Nat → Int
  | 0 => 20
  | 3 => 100
  | 4 => 1000
  | 6 => 10
  | 7 => 1
  | _ => 0
def tHi : Nat → Int
  | 0 => 200
  | 1 => 100
  | 2 => 100
  | 3 => 2000
  | 4 => 20000
  | 5 => 20000
  | 6 => 500
  | 7 => 8
  | _ => 32
theorem tLo_R (k : Nat) : R32 (tLo k) := by unfold tLo; split <;> decide
theorem tHi_R (k : Nat) : R32 (tHi k) := by unfold tHi; split <;> decide
def gLay (a b c d : Int) : Prop := (0 ≤ a ∧ a ≤ 7) ∧ (0 ≤ b ∧ b ≤ 1) ∧ (1 ≤ c ∧ c ≤ 40) ∧ (0 ≤ d ∧ d ≤ 200)
def eSt (a : Int) (e : Int) : Int := if 0 ≤ a ∧ a ≤ 7 then e else -1000001
def sLay (v : Sg) (s : Nat) (b c d : Int) : Sg := fun i => if 64 + 24 * s ≤ i ∧ i < 64 + 24 * s + 24 then 0 else if i = 24 + 5 * s then b else if i = 24 + 5 * s + 1 then c else if i = 24 + 5 * s + 2 then d else v i
def gSet (a b : Int) : Prop := (0 ≤ a ∧ a ≤ 8) ∧ (tLo a.toNat ≤ b ∧ b ≤ tHi a.toNat)
def eSet (a : Int) : Int := if 0 ≤ a ∧ a ≤ 8 then -1000002 else -1000001
abbrev gSK (a b : Int) : Prop := (0 ≤ a ∧ a ≤ 7) ∧ (0 ≤ b ∧ b ≤ 23)
def sCip (v : Sg) (s k : Nat) (on : Int) : Sg := sup v (256 + s) ((wth (v (256 + s)).toNat k (decide (on ≠ 0)) : Nat) : Int)
def gCip (v : Sg) (a b c : Int) : Prop := gSK a b ∧ ¬ (c ≠ 0 ∧ bt (v (256 + a.toNat)) b.toNat = false ∧ sCi v 8 = 6)
def eSK (a b e : Int) : Int := if gSK a b then e else -1000001
def sDra (v : Sg) (s : Nat) (on : Int) : Sg := sup v (24 + 5 * s + 3) (bP (on ≠ 0))
def sPre (v : Sg) (m k : Nat) (on : Int) : Sg := sup v (11 + m) ((wth (v (11 + m)).toNat k (decide (on ≠ 0)) : Nat) : Int)
def sCou (v : Sg) (a b : Int) : Sg := sup v 10 (bP (a ≠ 0) + 2 * bP (b ≠ 0))
def gTun (v : Sg) (a b : Int) : Prop := gSK a b ∧ (sRs v (sDrw v) true a.toNat b.toNat = 0 ∧ (-200 ≤ -sBend v (sDrw v) true a.toNat ∧ -sBend v (sDrw v) true a.toNat ≤ 200))
def sTun (v : Sg) (s k : Nat) : Sg := sup v (64 + 24 * s + k) (-sBend v (sDrw v) true s)
theorem lay_st (v : Sg) (s k : Nat) : sup (fun i => if 64 + 24 * s ≤ i ∧ i < 64 + 24 * s + k then 0 else v i) (64 + 24 * s + k) 0 = fun i => if 64 + 24 * s ≤ i ∧ i < 64 + 24 * s + (k + 1) then 0 else v i := by
  funext i
  unfold sup
  dsimp only
  by_cases h1 : i = 64 + 24 * s + k
  · rw [if_pos h1, if_pos (by omega)]
  · rw [if_neg h1]
    by_cases h2 : 64 + 24 * s ≤ i ∧ i < 64 + 24 * s + k
    · rw [if_pos h2, if_pos (by omega)]
    · rw [if_neg h2, if_neg (by omega)]
theorem lay_en (v : Sg) {s : Nat} (hs : s < 8) (b c d : Int) : sup (sup (sup (fun i => if 64 + 24 * s ≤ i ∧ i < 64 + 24 * s + 24 then 0 else v i) (24 + 5 * s) b) (24 + 5 * s + 2) d) (24 + 5 * s + 1) c = sLay v s b c d := by
  funext i
  unfold sup sLay
  dsimp only
  by_cases h1 : 64 + 24 * s ≤ i ∧ i < 64 + 24 * s + 24
  · rw [if_neg (by omega), if_neg (by omega), if_neg (by omega)]
    rw [if_pos h1, if_pos h1]
  · by_cases h2 : i = 24 + 5 * s
    · rw [if_neg (by omega), if_neg (by omega), if_pos h2, if_neg h1, if_pos h2]
    · by_cases h3 : i = 24 + 5 * s + 1
      · rw [if_pos h3, if_neg h1, if_neg h2, if_pos h3]
      · by_cases h4 : i = 24 + 5 * s + 2
        · rw [if_neg h3, if_pos h4, if_neg h1, if_neg h2, if_neg h3, if_pos h4]
        · rw [if_neg h3, if_neg h4, if_neg h2, if_neg h1, if_neg h1, if_neg h2, if_neg h3, if_neg h4]
set_option maxRecDepth 100000 in
set_option maxHeartbeats 400000 in
theorem c_X4_layOut {l : Launch} {G : vGG} {M : Mem} {v : Sg} (hLM : LayM M.2) (hv : M.1 111 = v) {n : Nat} (hn : M.1 110 3 = (n : Int)) (h5 : n ≤ 5) {a b c d : Int} (ha : R32 a) (hb : R32 b) (hc : R32 c) (hd : R32 d) : Co l yX4_layOut cX4_layOut 6 (some .int) (rmo 2 42) G [aR (some 110), aI a, aI b, aI c, aI d] M (oPost n v M (gLay a b c d) (v (24 + 5 * a.toNat + 1)) (eSt a (-1000002)) (sLay v a.toNat b c d)) := by
  refine Co.ofV (plainFor_of_name (by decide)) rfl rfl ?_
  intro x hxl hxR hlk hrt Q hQ
  show vO x Q G cX4_layOut RX4 0 [some (aR (some 110)), some (aI a), some (aI b), some (aI c), some (aI d), none] [] M
  refine v_iload_n 1 dX4_layOut_0 rfl rfl ?_
  refine oSv1 (c_X4_isStop (by omega)) k0_X4_isStop ki_X4_isStop ml_X4_67 (vRo_of hxR (by decide) (by decide)) dX4_layOut_1 (Nat.le_of_ble_eq_true rfl) ?_
  refine v_if_ne 10 dX4_layOut_4 (by decide) (bP_R _) (fun h4 => ?_) (fun h4 => ?_)
  · skip
    have ga := bP_n0.mp h4
    obtain ⟨s, rfl⟩ : ∃ s : Nat, a = ((s : Nat) : Int) := ⟨(a).toNat, by omega⟩
    refine v_iload_n 2 dX4_layOut_10 rfl rfl ?_
    refine v_iconst dX4_layOut_11 ?_
    refine v_iconst dX4_layOut_12 ?_
    refine oSv3 (c_X4_in (by omega) (by decide) (by decide)) k0_X4_in ki_X4_in ml_X4_59 (vRo_of hxR (by decide) (by decide)) dX4_layOut_13 (Nat.le_of_ble_eq_true rfl) ?_
    refine v_if_eq 41 dX4_layOut_16 (by decide) (bP_R _) (fun h16 => ?_) (fun h16 => ?_)
    · skip
      have gb := bP_0.mp h16
      refine v_ldc (-1000002) kc_X4_72 (by decide) dX4_layOut_41 ?_
      refine o_iret hQ hlk hrt dX4_layOut_43 ?_
      first | exact oPost.n (fun q => gb q.2.1) (by rw [eSt, if_pos ga]) | exact oPost.n (fun q => gc q.2.2.1) (by rw [eSt, if_pos ga]) | exact oPost.n (fun q => gd q.2.2.2) (by rw [eSt, if_pos ga])
    · skip
      have gb := bP_n0.mp h16
      refine v_iload_n 3 dX4_layOut_19 rfl rfl ?_
      refine v_iconst dX4_layOut_20 ?_
      refine v_bipush dX4_layOut_21 (by decide) ?_
      refine oSv3 (c_X4_in (by omega) (by decide) (by decide)) k0_X4_in ki_X4_in ml_X4_59 (vRo_of hxR (by decide) (by decide)) dX4_layOut_23 (Nat.le_of_ble_eq_true rfl) ?_
      refine v_if_eq 41 dX4_layOut_26 (by decide) (bP_R _) (fun h26 => ?_) (fun h26 => ?_)
      · skip
        have gc := bP_0.mp h26
        refine v_ldc (-1000002) kc_X4_72 (by decide) dX4_layOut_41 ?_
        refine o_iret hQ hlk hrt dX4_layOut_43 ?_
        first | exact oPost.n (fun q => gb q.2.1) (by rw [eSt, if_pos ga]) | exact oPost.n (fun q => gc q.2.2.1) (by rw [eSt, if_pos ga]) | exact oPost.n (fun q => gd q.2.2.2) (by rw [eSt, if_pos ga])
      · skip
        have gc := bP_n0.mp h26
        refine v_iload dX4_layOut_29 rfl ?_
        refine v_iconst dX4_layOut_31 ?_
        refine v_sipush dX4_layOut_32 (by decide) ?_
        refine oSv3 (c_X4_in (by omega) (by decide) (by decide)) k0_X4_in ki_X4_in ml_X4_59 (vRo_of hxR (by decide) (by decide)) dX4_layOut_35 (Nat.le_of_ble_eq_true rfl) ?_
        refine v_if_ne 44 dX4_layOut_38 (by decide) (bP_R _) (fun h38 => ?_) (fun h38 => ?_)
        · skip
          have gd := bP_n0.mp h38
          refine v_aload_n 0 dX4_layOut_44 rfl rfl ?_
          refine oVm0 4 (c_X4_records hLM hv hn h5) k0_X4_records ki_X4_records ml_X4_73 (rfl : SH 110 = _) (by decide) (vRo_of hxR (by decide) (by decide)) dX4_layOut_45 (Nat.le_of_ble_eq_true rfl) (fun N hN => ?_)
          have hR := hN
          have hLN := hR.lay hLM
          have hvN : N.1 111 = v := (hR.at (by decide) (by decide)).trans hv
          have hF : fr mL N N := fr_rf
          refine v_iconst dX4_layOut_48 ?_
          refine v_ist5 dX4_layOut_49 rfl ?_
          have lp51 : ∀ (dd k : Nat) (K : Mem), k + dd = 24 → fr mL N K → K.1 111 = (fun i => if 64 + 24 * s ≤ i ∧ i < 64 + 24 * s + k then 0 else v i) → vO x Q G cX4_layOut RX4 51 [some (aR (some 110)), some (aI (s : Int)), some (aI b), some (aI c), some (aI d), some (aI (k : Int))] [] K := by
            intro dd
            induction dd with
            | zero =>
              intro k K hd hF hvN
              obtain rfl : k = 24 := by omega
              have hLN := fr_lay hF (hR.lay hLM)
              refine v_iload dX4_layOut_51 rfl ?_
              refine v_bipush dX4_layOut_53 (by decide) ?_
              refine v_icmp_ge 80 dX4_layOut_55 (by decide) (by omega) (by decide) (fun h55 => ?_) (fun h55 => ?_)
              · skip
                refine v_aload_n 0 dX4_layOut_80 rfl rfl ?_
                refine v_getR lk_X4_7 rfl (rfl : SH 110 = _) (mo_0 hLN) dX4_layOut_81 ?_
                refine v_bipush dX4_layOut_84 (by decide) ?_
                refine v_iconst dX4_layOut_86 ?_
                refine v_iload_n 1 dX4_layOut_87 rfl rfl ?_
                refine v_imul dX4_layOut_88 ?_
                refine v_iadd dX4_layOut_89 ?_
                refine v_iload_n 2 dX4_layOut_90 rfl rfl ?_
                refine o_iast (j := 24 + (5 * s)) (by omega) (rfl : SH 111 = _) (by omega) (by omega) dX4_layOut_91 ?_
                refine o_gw hF (by decide) hvN (fun K hF hvN he => ?_)
                have hLN := fr_lay hF (hR.lay hLM)
                refine v_aload_n 0 dX4_layOut_92 rfl rfl ?_
                refine v_getR lk_X4_7 rfl (rfl : SH 110 = _) (mo_0 hLN) dX4_layOut_93 ?_
                refine v_bipush dX4_layOut_96 (by decide) ?_
                refine v_iconst dX4_layOut_98 ?_
                refine v_iload_n 1 dX4_layOut_99 rfl rfl ?_
                refine v_imul dX4_layOut_100 ?_
                refine v_iadd dX4_layOut_101 ?_
                refine v_iconst dX4_layOut_102 ?_
                refine v_iadd dX4_layOut_103 ?_
                refine v_iload dX4_layOut_104 rfl ?_
                refine o_iast (j := (24 + (5 * s)) + 2) (by omega) (rfl : SH 111 = _) (by omega) (by omega) dX4_layOut_106 ?_
                refine o_gw hF (by decide) hvN (fun K hF hvN he => ?_)
                have hLN := fr_lay hF (hR.lay hLM)
                refine v_aload_n 0 dX4_layOut_107 rfl rfl ?_
                refine v_bipush dX4_layOut_108 (by decide) ?_
                refine v_iconst dX4_layOut_110 ?_
                refine v_iload_n 1 dX4_layOut_111 rfl rfl ?_
                refine v_imul dX4_layOut_112 ?_
                refine v_iadd dX4_layOut_113 ?_
                refine v_iconst dX4_layOut_114 ?_
                refine v_iadd dX4_layOut_115 ?_
                refine v_iload_n 3 dX4_layOut_116 rfl rfl ?_
                have hv117 := hvN
                refine oVv2 4 (c_X4_puts (j := 24 + 5 * s + 1) hLN (by omega)) k0_X4_puts ki_X4_puts ml_X4_76 (rfl : SH 110 = _) (by decide) (vRo_of hxR (by decide) (by decide)) dX4_layOut_117 (Nat.le_of_ble_eq_true rfl) ?_
                refine o_gw hF (by decide) hvN (fun K hF hvN he => ?_)
                have hLN := fr_lay hF (hR.lay hLM)
                refine o_iret hQ hlk hrt dX4_layOut_120 ?_
                exact oPost.y ⟨ga, gb, gc, gd⟩ (by rw [hv117]; unfold sup; dsimp only; rw [if_neg (by omega), if_neg (by omega), if_neg (by omega)]; rfl) hR hF hvN (lay_en v (by omega) b c d)
              · skip
                exact absurd h55 (by omega)
            | succ dd ih =>
              intro k K hd hF hvN
              have hLN := fr_lay hF (hR.lay hLM)
              refine v_iload dX4_layOut_51 rfl ?_
              refine v_bipush dX4_layOut_53 (by decide) ?_
              refine v_icmp_ge 80 dX4_layOut_55 (by decide) (by omega) (by decide) (fun h55 => ?_) (fun h55 => ?_)
              · skip
                exact absurd h55 (by omega)
              · skip
                refine v_aload_n 0 dX4_layOut_58 rfl rfl ?_
                refine v_getR lk_X4_7 rfl (rfl : SH 110 = _) (mo_0 hLN) dX4_layOut_59 ?_
                refine v_bipush dX4_layOut_62 (by decide) ?_
                refine v_bipush dX4_layOut_64 (by decide) ?_
                refine v_iload_n 1 dX4_layOut_66 rfl rfl ?_
                refine v_imul dX4_layOut_67 ?_
                refine v_iadd dX4_layOut_68 ?_
                refine v_iload dX4_layOut_69 rfl ?_
                refine v_iadd dX4_layOut_71 ?_
                refine v_iconst dX4_layOut_72 ?_
                refine o_iast (j := (64 + (24 * s)) + k) (by omega) (rfl : SH 111 = _) (by omega) (by omega) dX4_layOut_73 ?_
                refine o_gw hF (by decide) hvN (fun K hF hvN he => ?_)
                have hLN := fr_lay hF (hR.lay hLM)
                refine v_iinc5 dX4_layOut_74 rfl ?_
                refine v_goto 51 dX4_layOut_77 (by decide) ?_
                exact ih (k + 1) K (by omega) hF (by rw [hvN]; exact lay_st v s k)
          exact lp51 24 0 N rfl fr_rf (by rw [hvN]; funext i; rw [if_neg (by omega)])
        · skip
          have gd := bP_0.mp h38
          refine v_ldc (-1000002) kc_X4_72 (by decide) dX4_layOut_41 ?_
          refine o_iret hQ hlk hrt dX4_layOut_43 ?_
          first | exact oPost.n (fun q => gb q.2.1) (by rw [eSt, if_pos ga]) | exact oPost.n (fun q => gc q.2.2.1) (by rw [eSt, if_pos ga]) | exact oPost.n (fun q => gd q.2.2.2) (by rw [eSt, if_pos ga])
  · skip
    have ga := bP_0.mp h4
    refine v_ldc (-1000001) kc_X4_71 (by decide) dX4_layOut_7 ?_
    refine o_iret hQ hlk hrt dX4_layOut_9 ?_
    exact oPost.n (fun q => ga q.1) (by rw [eSt, if_neg ga])
set_option maxRecDepth 100000 in
set_option maxHeartbeats 400000 in
theorem c_X4_set {l : Launch} {G : vGG} {M : Mem} {v : Sg} (hLM : LayM M.2) (hv : M.1 111 = v) {n : Nat} (hn : M.1 110 3 = (n : Int)) (h5 : n ≤ 5) (hlo : ∀ k, k < 9 → M.1 117 k = tLo k) (hhi : ∀ k, k < 9 → M.1 118 k = tHi k) {a b : Int} (ha : R32 a) (hb : R32 b) : Co l yX4_set cX4_set 3 (some .int) (rmo 1 23) G [aR (some 110), aI a, aI b] M (oPost n v M (gSet a b) (v (1 + a.toNat)) (eSet a) (sup v (1 + a.toNat) b)) := by
  refine Co.ofV (plainFor_of_name (by decide)) rfl rfl ?_
  intro x hxl hxR hlk hrt Q hQ
  show vO x Q G cX4_set RX4 0 [some (aR (some 110)), some (aI a), some (aI b)] [] M
  refine v_iload_n 1 dX4_set_0 rfl rfl ?_
  refine v_iconst dX4_set_1 ?_
  refine v_bipush dX4_set_2 (by decide) ?_
  refine oSv3 (c_X4_in (by omega) (by decide) (by decide)) k0_X4_in ki_X4_in ml_X4_59 (vRo_of hxR (by decide) (by decide)) dX4_set_4 (Nat.le_of_ble_eq_true rfl) ?_
  refine v_if_ne 13 dX4_set_7 (by decide) (bP_R _) (fun h7 => ?_) (fun h7 => ?_)
  · skip
    have ga := bP_n0.mp h7
    obtain ⟨s, rfl⟩ : ∃ s : Nat, a = ((s : Nat) : Int) := ⟨(a).toNat, by omega⟩
    refine v_iload_n 2 dX4_set_13 rfl rfl ?_
    refine v_aload_n 0 dX4_set_14 rfl rfl ?_
    refine v_getR lk_X4_29 rfl (rfl : SH 110 = _) (mo_8 hLM) dX4_set_15 ?_
    refine v_iload_n 1 dX4_set_18 rfl rfl ?_
    refine o_iald (j := s) (u := tLo s) (rfl : SH 117 = _) (by omega) (by omega) (hlo s (by omega)) dX4_set_19 ?_
    refine v_aload_n 0 dX4_set_20 rfl rfl ?_
    refine v_getR lk_X4_32 rfl (rfl : SH 110 = _) (mo_9 hLM) dX4_set_21 ?_
    refine v_iload_n 1 dX4_set_24 rfl rfl ?_
    refine o_iald (j := s) (u := tHi s) (rfl : SH 118 = _) (by omega) (by omega) (hhi s (by omega)) dX4_set_25 ?_
    refine oSv3 (c_X4_in (by omega) (tLo_R s) (tHi_R s)) k0_X4_in ki_X4_in ml_X4_59 (vRo_of hxR (by decide) (by decide)) dX4_set_26 (Nat.le_of_ble_eq_true rfl) ?_
    refine v_if_ne 35 dX4_set_29 (by decide) (bP_R _) (fun h29 => ?_) (fun h29 => ?_)
    · skip
      have gb := bP_n0.mp h29
      refine v_aload_n 0 dX4_set_35 rfl rfl ?_
      refine oVm0 4 (c_X4_records hLM hv hn h5) k0_X4_records ki_X4_records ml_X4_73 (rfl : SH 110 = _) (by decide) (vRo_of hxR (by decide) (by decide)) dX4_set_36 (Nat.le_of_ble_eq_true rfl) (fun N hN => ?_)
      have hR := hN
      have hLN := hR.lay hLM
      have hvN : N.1 111 = v := (hR.at (by decide) (by decide)).trans hv
      have hF : fr mL N N := fr_rf
      refine v_aload_n 0 dX4_set_39 rfl rfl ?_
      refine v_iconst dX4_set_40 ?_
      refine v_iload_n 1 dX4_set_41 rfl rfl ?_
      refine v_iadd dX4_set_42 ?_
      have hv44 := hvN
      refine v_iload_n 2 dX4_set_43 rfl rfl ?_
      refine oVv2 4 (c_X4_puts (j := 1 + s) hLN (by omega)) k0_X4_puts ki_X4_puts ml_X4_76 (rfl : SH 110 = _) (by decide) (vRo_of hxR (by decide) (by decide)) dX4_set_44 (Nat.le_of_ble_eq_true rfl) ?_
      refine o_gw hF (by decide) hvN (fun K hF hvN he => ?_)
      have hLN := fr_lay hF (hR.lay hLM)
      refine o_iret hQ hlk hrt dX4_set_47 ?_
      exact oPost.y ⟨ga, gb⟩ (by rw [hv44]; rfl) hR hF hvN rfl
    · skip
      have gb := bP_0.mp h29
      refine v_ldc (-1000002) kc_X4_72 (by decide) dX4_set_32 ?_
      refine o_iret hQ hlk hrt dX4_set_34 ?_
      exact oPost.n (fun q => gb q.2) (by rw [eSet, if_pos ga])
  · skip
    have ga := bP_0.mp h7
    refine v_ldc (-1000001) kc_X4_71 (by decide) dX4_set_10 ?_
    refine o_iret hQ hlk hrt dX4_set_12 ?_
    exact oPost.n (fun q => ga q.1) (by rw [eSet, if_neg ga])
theorem dra_inv {v : Sg} (hI : sInv v) {s : Nat} (hs : s < 8) (on : Int) : sInv (sDra v s on) := by
  have hb := bP_01 (on ≠ 0)
  obtain ⟨h1, h2, h3, h4, h5, h6⟩ := hI
  have e : ∀ i, i ≠ 24 + 5 * s + 3 → sDra v s on i = v i := fun i hi => sup_ne _ _ hi
  refine ⟨fun t ht => ?_, ?_, fun p hp => by rw [e _ (by omega)]; exact h3 p hp, ?_, ?_, ?_⟩
  · have := h1 t ht
    rw [e _ (by omega), e (24 + 5 * t + 1) (by omega), e (24 + 5 * t + 2) (by omega), e (256 + t) (by omega)]
    refine ⟨this.1, this.2.1, this.2.2.1, ?_, this.2.2.2.2⟩
    by_cases ht2 : t = s
    · subst ht2
      rw [sDra, sup_eq]
      omega
    · rw [e _ (by omega)]
      exact this.2.2.2.1
  · have : ∀ t, t ≤ 8 → sCi (sDra v s on) t = sCi v t := by
      intro t
      induction t with
      | zero => intro _; rfl
      | succ t ih => intro ht; rw [sCi, sCi, ih (by omega), e _ (by omega)]
    rw [this 8 (Nat.le_refl _)]
    exact h2
  · rw [e 1 (by omega), e 2 (by omega), e 3 (by omega), e 4 (by omega), e 5 (by omega), e 6 (by omega), e 7 (by omega), e 8 (by omega), e 9 (by omega)]
    exact h4
  · rw [e 10 (by omega), e 11 (by omega), e 12 (by omega)]
    exact h5
  · rw [e 0 (by omega), e 17 (by omega), e 20 (by omega), e 21 (by omega), e 22 (by omega), e 23 (by omega)]
    exact h6
set_option maxRecDepth 100000 in
set_option maxHeartbeats 400000 in
theorem c_X4_draws {l : Launch} {G : vGG} {M : Mem} {v : Sg} (hLM : LayM M.2) (hv : M.1 111 = v) (hI : sInv v) {s : Nat} {on : Int} (hs : s < 8) (ho : R32 on) : Co l yX4_draws cX4_draws 3 (some .int) (rmo 1 22) G [aR (some 110), aI (s : Int), aI on] M (fun r M' => r = some (aI ((pc (sDrw (sDra v s on)) : Nat) : Int)) ∧ fr [111] M M' ∧ M'.1 111 = sDra v s on) := by
  refine Co.ofV (plainFor_of_name (by decide)) rfl rfl ?_
  intro x hxl hxR hlk hrt Q hQ
  show vO x Q G cX4_draws RX4 0 [some (aR (some 110)), some (aI (s : Int)), some (aI on)] [] M
  refine v_aload_n 0 dX4_draws_0 rfl rfl ?_
  refine v_getR lk_X4_7 rfl (rfl : SH 110 = _) (mo_0 hLM) dX4_draws_1 ?_
  refine v_bipush dX4_draws_4 (by decide) ?_
  refine v_iconst dX4_draws_6 ?_
  refine v_iload_n 1 dX4_draws_7 rfl rfl ?_
  refine v_imul dX4_draws_8 ?_
  refine v_iadd dX4_draws_9 ?_
  refine v_iconst dX4_draws_10 ?_
  refine v_iadd dX4_draws_11 ?_
  refine v_iload_n 2 dX4_draws_12 rfl rfl ?_
  have jn21 : ∀ z : Int, z = bP (on ≠ 0) → vO x Q G cX4_draws RX4 21 [some (aR (some 110)), some (aI (s : Int)), some (aI on)] [aI z, aI ((24 + 5 * s + 3 : Nat) : Int), aR (some 111)] M := by
    intro z hz
    subst hz
    refine o_iast (j := (24 + (5 * s)) + 3) (by omega) (rfl : SH 111 = _) (by omega) (by omega) dX4_draws_21 ?_
    refine o_gw (L := [111]) (M0 := M) fr_rf (by decide) hv (fun K hF hvN he => ?_)
    have hLN := fr_lay hF hLM
    have hI2 : sInv (sDra v s on) := dra_inv hI hs on
    have hD := sDrw_lt hI2
    refine v_aload_n 0 dX4_draws_22 rfl rfl ?_
    refine oVv0 4 (c_X4_drawn hLN hvN hI2) k0_X4_drawn ki_X4_drawn ml_X4_96 (rfl : SH 110 = _) (by decide) (vRo_of hxR (by decide) (by decide)) dX4_draws_23 (Nat.le_of_ble_eq_true rfl) ?_
    refine oSv1 (c_X4_size (Nat.lt_trans hD (by decide))) k0_X4_size ki_X4_size ml_X4_80 (vRo_of hxR (by decide) (by decide)) dX4_draws_26 (Nat.le_of_ble_eq_true rfl) ?_
    refine o_iret hQ hlk hrt dX4_draws_29 ?_
    exact ⟨rfl, hF, hvN⟩
  refine v_if_eq 20 dX4_draws_13 (by decide) ho (fun h13 => ?_) (fun h13 => ?_)
  · skip
    refine v_iconst dX4_draws_20 ?_
    first | exact jn21 _ (bP_t h13).symm | exact jn21 _ (bP_f (fun q => q h13)).symm
  · skip
    refine v_iconst dX4_draws_16 ?_
    refine v_goto 21 dX4_draws_17 (by decide) ?_
    first | exact jn21 _ (bP_t h13).symm | exact jn21 _ (bP_f (fun q => q h13)).symm
set_option maxRecDepth 100000 in
set_option maxHeartbeats 400000 in
theorem c_X4_draw {l : Launch} {G : vGG} {M : Mem} {v : Sg} (hLM : LayM M.2) (hv : M.1 111 = v) (hI : sInv v) {n : Nat} (hn : M.1 110 3 = (n : Int)) (h5 : n ≤ 5) {a on : Int} (ha : R32 a) (ho : R32 on) : Co l yX4_draw cX4_draw 3 (some .int) (rmo 2 44) G [aR (some 110), aI a, aI on] M (oPost n v M (0 ≤ a ∧ a ≤ 7) (((pc (sDrw (sDra v a.toNat on)) : Nat) : Int)) (-1000001) (sDra v a.toNat on)) := by
  refine Co.ofV (plainFor_of_name (by decide)) rfl rfl ?_
  intro x hxl hxR hlk hrt Q hQ
  show vO x Q G cX4_draw RX4 0 [some (aR (some 110)), some (aI a), some (aI on)] [] M
  refine v_iload_n 1 dX4_draw_0 rfl rfl ?_
  refine oSv1 (c_X4_isStop (by omega)) k0_X4_isStop ki_X4_isStop ml_X4_67 (vRo_of hxR (by decide) (by decide)) dX4_draw_1 (Nat.le_of_ble_eq_true rfl) ?_
  refine v_if_ne 10 dX4_draw_4 (by decide) (bP_R _) (fun h4 => ?_) (fun h4 => ?_)
  · skip
    have ga := bP_n0.mp h4
    obtain ⟨s, rfl⟩ : ∃ s : Nat, a = ((s : Nat) : Int) := ⟨(a).toNat, by omega⟩
    refine v_aload_n 0 dX4_draw_10 rfl rfl ?_
    refine oVm0 4 (c_X4_records hLM hv hn h5) k0_X4_records ki_X4_records ml_X4_73 (rfl : SH 110 = _) (by decide) (vRo_of hxR (by decide) (by decide)) dX4_draw_11 (Nat.le_of_ble_eq_true rfl) (fun N hN => ?_)
    have hR := hN
    have hLN := hR.lay hLM
    have hvN : N.1 111 = v := (hR.at (by decide) (by decide)).trans hv
    have hF : fr mL N N := fr_rf
    refine v_aload_n 0 dX4_draw_14 rfl rfl ?_
    refine v_iload_n 1 dX4_draw_15 rfl rfl ?_
    refine v_iload_n 2 dX4_draw_16 rfl rfl ?_
    refine oVq2 4 (c_X4_draws hLN hvN hI (by omega) ho) k0_X4_draws ki_X4_draws ml_X4_99 (rfl : SH 110 = _) (by decide) (vRo_of hxR (by decide) (by decide)) dX4_draw_17 (Nat.le_of_ble_eq_true rfl) (fun N hN => ?_)
    obtain ⟨hF2, hv2⟩ := hN
    refine o_iret hQ hlk hrt dX4_draw_20 ?_
    exact oPost.y ga rfl hR (fr_mono hF2 (by decide)) hv2 rfl
  · skip
    have ga := bP_0.mp h4
    refine v_ldc (-1000001) kc_X4_71 (by decide) dX4_draw_7 ?_
    refine o_iret hQ hlk hrt dX4_draw_9 ?_
    exact oPost.n ga rfl
theorem pre_b {v : Sg} (hI : sInv v) {s : Nat} (hs : s < 2) : 0 ≤ v (11 + s) ∧ v (11 + s) < 16777216 := by
  have := iv_key hI
  rcases (show s = 0 ∨ s = 1 by omega) with rfl | rfl
  · exact this.2.1
  · exact this.2.2
set_option maxRecDepth 100000 in
set_option maxHeartbeats 400000 in
theorem c_X4_presses {l : Launch} {G : vGG} {M : Mem} {v : Sg} (hLM : LayM M.2) (hv : M.1 111 = v) (hI : sInv v) {s k : Nat} {on : Int} (hs : s < 2) (hk : k < 24) (ho : R32 on) : Co l yX4_presses cX4_presses 4 (some .int) (rmo 1 22) G [aR (some 110), aI (s : Int), aI (k : Int), aI on] M (fun r M' => r = some (aI ((pc (sPre v s k on (11 + s)).toNat : Nat) : Int)) ∧ fr [111] M M' ∧ M'.1 111 = sPre v s k on) := by
  refine Co.ofV (plainFor_of_name (by decide)) rfl rfl ?_
  intro x hxl hxR hlk hrt Q hQ
  have hvb := pre_b hI hs
  have hwb : wth (v (11 + s)).toNat k (decide (on ≠ 0)) < 16777216 := wth_lt _ (by omega) hk
  show vO x Q G cX4_presses RX4 0 [some (aR (some 110)), some (aI (s : Int)), some (aI (k : Int)), some (aI on)] [] M
  refine v_aload_n 0 dX4_presses_0 rfl rfl ?_
  refine v_getR lk_X4_7 rfl (rfl : SH 110 = _) (mo_0 hLM) dX4_presses_1 ?_
  refine v_bipush dX4_presses_4 (by decide) ?_
  refine v_iload_n 1 dX4_presses_6 rfl rfl ?_
  refine v_iadd dX4_presses_7 ?_
  refine v_aload_n 0 dX4_presses_8 rfl rfl ?_
  refine v_getR lk_X4_7 rfl (rfl : SH 110 = _) (mo_0 hLM) dX4_presses_9 ?_
  refine v_bipush dX4_presses_12 (by decide) ?_
  refine v_iload_n 1 dX4_presses_14 rfl rfl ?_
  refine v_iadd dX4_presses_15 ?_
  refine o_iald (j := 11 + s) (u := v (11 + s)) (rfl : SH 111 = _) (by omega) (by omega) (by rw [hv]) dX4_presses_16 ?_
  refine v_iload_n 2 dX4_presses_17 rfl rfl ?_
  refine v_iload_n 3 dX4_presses_18 rfl rfl ?_
  refine oSv3 (c_X4_with hvb.1 (by omega) (by omega) ho) k0_X4_with ki_X4_with ml_X4_92 (vRo_of hxR (by decide) (by decide)) dX4_presses_19 (Nat.le_of_ble_eq_true rfl) ?_
  refine o_iast (j := 11 + s) (by omega) (rfl : SH 111 = _) (by omega) (by omega) dX4_presses_22 ?_
  refine o_gw (L := [111]) (M0 := M) fr_rf (by decide) hv (fun K hF hvN he => ?_)
  have hLN := fr_lay hF hLM
  refine v_aload_n 0 dX4_presses_23 rfl rfl ?_
  refine v_getR lk_X4_7 rfl (rfl : SH 110 = _) (mo_0 hLN) dX4_presses_24 ?_
  refine v_bipush dX4_presses_27 (by decide) ?_
  refine v_iload_n 1 dX4_presses_29 rfl rfl ?_
  refine v_iadd dX4_presses_30 ?_
  refine o_iald (j := 11 + s) (u := ((wth (v (11 + s)).toNat k (decide (on ≠ 0)) : Nat) : Int)) (rfl : SH 111 = _) (by omega) (by omega) (by rw [hvN, sup_eq]) dX4_presses_31 ?_
  refine oSv1 (c_X4_size hwb) k0_X4_size ki_X4_size ml_X4_80 (vRo_of hxR (by decide) (by decide)) dX4_presses_32 (Nat.le_of_ble_eq_true rfl) ?_
  refine o_iret hQ hlk hrt dX4_presses_35 ?_
  exact ⟨by rw [sPre, sup_eq]; rfl, hF, hvN⟩
set_option maxRecDepth 100000 in
set_option maxHeartbeats 400000 in
theorem c_X4_press {l : Launch} {G : vGG} {M : Mem} {v : Sg} (hLM : LayM M.2) (hv : M.1 111 = v) (hI : sInv v) {n : Nat} (hn : M.1 110 3 = (n : Int)) (h5 : n ≤ 5) {a b on : Int} (ha : R32 a) (hb : R32 b) (ho : R32 on) : Co l yX4_press cX4_press 4 (some .int) (rmo 2 45) G [aR (some 110), aI a, aI b, aI on] M (oPost n v M ((0 ≤ a ∧ a ≤ 1) ∧ (0 ≤ b ∧ b ≤ 23)) (((pc (sPre v a.toNat b.toNat on (11 + a.toNat)).toNat : Nat) : Int)) (-1000001) (sPre v a.toNat b.toNat on)) := by
  refine Co.ofV (plainFor_of_name (by decide)) rfl rfl ?_
  intro x hxl hxR hlk hrt Q hQ
  show vO x Q G cX4_press RX4 0 [some (aR (some 110)), some (aI a), some (aI b), some (aI on)] [] M
  refine v_iload_n 1 dX4_press_0 rfl rfl ?_
  refine v_iconst dX4_press_1 ?_
  refine v_iconst dX4_press_2 ?_
  refine oSv3 (c_X4_in (by omega) (by decide) (by decide)) k0_X4_in ki_X4_in ml_X4_59 (vRo_of hxR (by decide) (by decide)) dX4_press_3 (Nat.le_of_ble_eq_true rfl) ?_
  refine v_if_eq 16 dX4_press_6 (by decide) (bP_R _) (fun h6 => ?_) (fun h6 => ?_)
  · skip
    have ga := bP_0.mp h6
    refine v_ldc (-1000001) kc_X4_71 (by decide) dX4_press_16 ?_
    refine o_iret hQ hlk hrt dX4_press_18 ?_
    first | exact oPost.n (fun q => ga q.1) rfl | exact oPost.n (fun q => gb q.2) rfl
  · skip
    have ga := bP_n0.mp h6
    obtain ⟨s, rfl⟩ : ∃ s : Nat, a = ((s : Nat) : Int) := ⟨(a).toNat, by omega⟩
    refine v_iload_n 2 dX4_press_9 rfl rfl ?_
    refine oSv1 (c_X4_isKey (by omega)) k0_X4_isKey ki_X4_isKey ml_X4_84 (vRo_of hxR (by decide) (by decide)) dX4_press_10 (Nat.le_of_ble_eq_true rfl) ?_
    refine v_if_ne 19 dX4_press_13 (by decide) (bP_R _) (fun h13 => ?_) (fun h13 => ?_)
    · skip
      have gb := bP_n0.mp h13
      obtain ⟨k, rfl⟩ : ∃ k : Nat, b = ((k : Nat) : Int) := ⟨(b).toNat, by omega⟩
      refine v_aload_n 0 dX4_press_19 rfl rfl ?_
      refine oVm0 4 (c_X4_records hLM hv hn h5) k0_X4_records ki_X4_records ml_X4_73 (rfl : SH 110 = _) (by decide) (vRo_of hxR (by decide) (by decide)) dX4_press_20 (Nat.le_of_ble_eq_true rfl) (fun N hN => ?_)
      have hR := hN
      have hLN := hR.lay hLM
      have hvN : N.1 111 = v := (hR.at (by decide) (by decide)).trans hv
      have hF : fr mL N N := fr_rf
      refine v_aload_n 0 dX4_press_23 rfl rfl ?_
      refine v_iload_n 1 dX4_press_24 rfl rfl ?_
      refine v_iload_n 2 dX4_press_25 rfl rfl ?_
      refine v_iload_n 3 dX4_press_26 rfl rfl ?_
      refine oVq3 4 (c_X4_presses hLN hvN hI (by omega) (by omega) ho) k0_X4_presses ki_X4_presses ml_X4_103 (rfl : SH 110 = _) (by decide) (vRo_of hxR (by decide) (by decide)) dX4_press_27 (Nat.le_of_ble_eq_true rfl) (fun N hN => ?_)
      obtain ⟨hF2, hv2⟩ := hN
      refine o_iret hQ hlk hrt dX4_press_30 ?_
      exact oPost.y ⟨ga, gb⟩ rfl hR (fr_mono hF2 (by decide)) hv2 rfl
    · skip
      have gb := bP_0.mp h13
      refine v_ldc (-1000001) kc_X4_71 (by decide) dX4_press_16 ?_
      refine o_iret hQ hlk hrt dX4_press_18 ?_
      first | exact oPost.n (fun q => ga q.1) rfl | exact oPost.n (fun q => gb q.2) rfl
set_option maxRecDepth 100000 in
set_option maxHeartbeats 400000 in
theorem c_X4_couple {l : Launch} {G : vGG} {M : Mem} {v : Sg} (hLM : LayM M.2) (hv : M.1 111 = v) {n : Nat} (hn : M.1 110 3 = (n : Int)) (h5 : n ≤ 5) {a b : Int} (ha : R32 a) (hb : R32 b) : Co l yX4_couple cX4_couple 3 (some .int) (rmo 1 23) G [aR (some 110), aI a, aI b] M (oPost n v M True (v 10) (0) (sCou v a b)) := by
  refine Co.ofV (plainFor_of_name (by decide)) rfl rfl ?_
  intro x hxl hxR hlk hrt Q hQ
  show vO x Q G cX4_couple RX4 0 [some (aR (some 110)), some (aI a), some (aI b)] [] M
  refine v_aload_n 0 dX4_couple_0 rfl rfl ?_
  refine oVm0 4 (c_X4_records hLM hv hn h5) k0_X4_records ki_X4_records ml_X4_73 (rfl : SH 110 = _) (by decide) (vRo_of hxR (by decide) (by decide)) dX4_couple_1 (Nat.le_of_ble_eq_true rfl) (fun N hN => ?_)
  have hR := hN
  have hLN := hR.lay hLM
  have hvN : N.1 111 = v := (hR.at (by decide) (by decide)).trans hv
  have hF : fr mL N N := fr_rf
  refine v_aload_n 0 dX4_couple_4 rfl rfl ?_
  refine v_bipush dX4_couple_5 (by decide) ?_
  refine v_iload_n 1 dX4_couple_7 rfl rfl ?_
  have jn16 : ∀ z : Int, z = bP (a ≠ 0) → vO x Q G cX4_couple RX4 16 [some (aR (some 110)), some (aI a), some (aI b)] [aI z, aI 10, aR (some 110)] N := by
    intro z hz
    subst hz
    refine v_iload_n 2 dX4_couple_16 rfl rfl ?_
    have jn25 : ∀ z : Int, z = 2 * bP (b ≠ 0) → vO x Q G cX4_couple RX4 25 [some (aR (some 110)), some (aI a), some (aI b)] [aI z, aI (bP (a ≠ 0)), aI 10, aR (some 110)] N := by
      intro z hz
      subst hz
      refine v_iadd dX4_couple_25 ?_
      have hv26 := hvN
      refine oVv2 4 (c_X4_puts (j := 10) hLN (by omega)) k0_X4_puts ki_X4_puts ml_X4_76 (rfl : SH 110 = _) (by decide) (vRo_of hxR (by decide) (by decide)) dX4_couple_26 (Nat.le_of_ble_eq_true rfl) ?_
      refine o_gw hF (by decide) hvN (fun K hF hvN he => ?_)
      have hLN := fr_lay hF (hR.lay hLM)
      refine o_iret hQ hlk hrt dX4_couple_29 ?_
      exact oPost.y trivial (by rw [hv26]) hR hF hvN rfl
    refine v_if_eq 24 dX4_couple_17 (by decide) hb (fun h17 => ?_) (fun h17 => ?_)
    · skip
      refine v_iconst dX4_couple_24 ?_
      first | exact jn25 _ (by rw [bP_t h17]; rfl) | exact jn25 _ (by rw [bP_f (fun q => q h17)]; rfl)
    · skip
      refine v_iconst dX4_couple_20 ?_
      refine v_goto 25 dX4_couple_21 (by decide) ?_
      first | exact jn25 _ (by rw [bP_t h17]; rfl) | exact jn25 _ (by rw [bP_f (fun q => q h17)]; rfl)
  refine v_if_eq 15 dX4_couple_8 (by decide) ha (fun h8 => ?_) (fun h8 => ?_)
  · skip
    refine v_iconst dX4_couple_15 ?_
    first | exact jn16 _ (bP_t h8).symm | exact jn16 _ (bP_f (fun q => q h8)).symm
  · skip
    refine v_iconst dX4_couple_11 ?_
    refine v_goto 16 dX4_couple_12 (by decide) ?_
    first | exact jn16 _ (bP_t h8).symm | exact jn16 _ (bP_f (fun q => q h8)).symm
set_option maxRecDepth 100000 in
set_option maxHeartbeats 400000 in
theorem c_X4_tick {l : Launch} {G : vGG} {M : Mem} {v : Sg} (hLM : LayM M.2) (hv : M.1 111 = v) (hI : sInv v) {n : Nat} (hn : M.1 110 3 = (n : Int)) (h5 : n ≤ 5) {a : Int} (ha : R32 a) : Co l yX4_tick cX4_tick 2 (some .int) (rmo 5 114) G [aR (some 110), aI a] M (oPost n v M (1 ≤ a ∧ a ≤ 200) (sTks v a.toNat 0) (-1000002) (sTks v a.toNat)) := by
  refine Co.ofV (plainFor_of_name (by decide)) rfl rfl ?_
  intro x hxl hxR hlk hrt Q hQ
  show vO x Q G cX4_tick RX4 0 [some (aR (some 110)), some (aI a)] [] M
  refine v_iload_n 1 dX4_tick_0 rfl rfl ?_
  refine v_iconst dX4_tick_1 ?_
  refine v_sipush dX4_tick_2 (by decide) ?_
  refine oSv3 (c_X4_in (by omega) (by decide) (by decide)) k0_X4_in ki_X4_in ml_X4_59 (vRo_of hxR (by decide) (by decide)) dX4_tick_5 (Nat.le_of_ble_eq_true rfl) ?_
  refine v_if_ne 14 dX4_tick_8 (by decide) (bP_R _) (fun h8 => ?_) (fun h8 => ?_)
  · skip
    have ga := bP_n0.mp h8
    obtain ⟨s, rfl⟩ : ∃ s : Nat, a = ((s : Nat) : Int) := ⟨(a).toNat, by omega⟩
    refine v_aload_n 0 dX4_tick_14 rfl rfl ?_
    refine oVm0 4 (c_X4_records hLM hv hn h5) k0_X4_records ki_X4_records ml_X4_73 (rfl : SH 110 = _) (by decide) (vRo_of hxR (by decide) (by decide)) dX4_tick_15 (Nat.le_of_ble_eq_true rfl) (fun N hN => ?_)
    have hR := hN
    have hLN := hR.lay hLM
    have hvN : N.1 111 = v := (hR.at (by decide) (by decide)).trans hv
    have hF : fr mL N N := fr_rf
    refine v_aload_n 0 dX4_tick_18 rfl rfl ?_
    refine v_iload_n 1 dX4_tick_19 rfl rfl ?_
    refine oVq1 4 (c_X4_passes hLN hvN hI (by omega)) k0_X4_passes ki_X4_passes ml_X4_137 (rfl : SH 110 = _) (by decide) (vRo_of hxR (by decide) (by decide)) dX4_tick_20 (Nat.le_of_ble_eq_true rfl) (fun N hN => ?_)
    obtain ⟨hF2, hv2⟩ := hN
    refine o_iret hQ hlk hrt dX4_tick_23 ?_
    exact oPost.y ga rfl hR (fr_mono hF2 (by decide)) hv2 rfl
  · skip
    have ga := bP_0.mp h8
    refine v_ldc (-1000002) kc_X4_72 (by decide) dX4_tick_11 ?_
    refine o_iret hQ hlk hrt dX4_tick_13 ?_
    exact oPost.n ga rfl
