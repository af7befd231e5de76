/-! ===== the class: layOut ===== -/
theorem xs_cell {b i k : Nat} {z : Int} {w : Sg} {f g : Nat → Nat → Int} (h : XS b w (vup f i k z)) (ei : ∀ i', i' ≠ i → g i' = f i') (ej : ∀ j, g i j = if j = k then z else f i j) : XS b w g := by
  have e : g = vup f i k z := by
    funext i' j
    by_cases h1 : i' = i
    · subst h1
      rw [ej j, vup_in]
    · rw [ei i' h1, vup_o (.inl h1)]
  rw [e]
  exact h
def layK (w : Sg) (s k : Nat) : Sg := fun i => if 64 + 24 * s ≤ i ∧ i < 64 + 24 * s + k then 0 else w i
theorem layK_0 (w : Sg) (s : Nat) : layK w s 0 = w := by
  funext i
  rw [layK, if_neg (by omega)]
theorem layK_s (w : Sg) (s k : Nat) : sup (layK w s k) (64 + (24 * s + k)) 0 = layK w s (k + 1) := by
  rw [← Nat.add_assoc]
  exact lay_st w s k
theorem layK_e (v : Sg) {s : Nat} (hs : s < 8) (b c d : Int) : layK (sup (sup (sup v (24 + 5 * s) b) (24 + 5 * s + 1) c) (24 + 5 * s + 2) d) s 24 = sLay v s b c d := by
  funext i
  unfold layK sup sLay
  by_cases h1 : 64 + 24 * s ≤ i ∧ i < 64 + 24 * s + 24
  · rw [if_pos h1, if_pos h1]
  · rw [if_neg h1, if_neg h1]
    by_cases h2 : i = 24 + 5 * s
    · rw [if_neg (by omega), if_neg (by omega), if_pos h2, if_pos h2]
    · by_cases h3 : i = 24 + 5 * s + 1
      · rw [if_neg (by omega), if_pos h3, if_neg h2, if_pos h3]
      · by_cases h4 : i = 24 + 5 * s + 2
        · rw [if_pos h4, if_neg h2, if_neg h3, if_pos h4]
        · rw [if_neg h4, if_neg h3, if_neg h2, if_neg h2, if_neg h3, if_neg h4]
set_option maxRecDepth 100000 in
set_option maxHeartbeats 400000 in
theorem c_X3_layOut {l : Launch} {G : vGG} {M : Mem} {v : Sg} (hLX : LayX M.2) (hX : XS 1 v M.1) (hI : sInv v) {r : Nat} {h : Nat → Nat} (hr : M.1 0 8 = (r : Int)) (hr5 : r ≤ 5) (hh : ∀ k, k < 5 → M.2 21 k = some (h k)) (hB : ∀ k, k < 5 → stB (h k) ∧ 40 ≤ h k ∧ h k ≤ 80) {a mb c d : Int} (ha : R32 a) (hmb : R32 mb) (hc : R32 c) (hd0 : R32 d) : Co l yX3_layOut cX3_layOut 7 (some .int) (rmo 4 82) G [aR (some 0), aI a, aI mb, aI c, aI d] M (xPost r h v M (gLay a mb c d) (v (24 + 5 * a.toNat + 1)) (eSt a (-1000002)) (sLay v a.toNat mb c d)) := by
  refine Co.ofV (plainFor_of_name (by decide)) rfl rfl ?_
  intro x hxl hxR hlk hrt Q hQ
  show vO x Q G cX3_layOut RX3 0 [some (aR (some 0)), some (aI a), some (aI mb), some (aI c), some (aI d), none, none] [] M
  refine v_iload_n 1 dX3_layOut_0 rfl rfl ?_
  refine oSv1 (c_X3_isStop (by omega)) k0_X3_isStop ki_X3_isStop ml_X3_47 (vRo_of hxR (by decide) (by decide)) dX3_layOut_1 (Nat.le_of_ble_eq_true rfl) ?_
  refine v_if_ne 10 dX3_layOut_4 (by decide) (bP_R _) (fun h4 => ?_) (fun h4 => ?_)
  · skip
    have ga := bP_n0.mp h4
    obtain ⟨s, rfl⟩ : ∃ s : Nat, a = ((s : Nat) : Int) := ⟨(a).toNat, by omega⟩
    refine v_iload_n 2 dX3_layOut_10 rfl rfl ?_
    refine oSv1 (c_X3_isManual (by omega)) k0_X3_isManual ki_X3_isManual ml_X3_52 (vRo_of hxR (by decide) (by decide)) dX3_layOut_11 (Nat.le_of_ble_eq_true rfl) ?_
    refine v_if_eq 39 dX3_layOut_14 (by decide) (bP_R _) (fun h14 => ?_) (fun h14 => ?_)
    · skip
      have gb := bP_0.mp h14
      refine v_ldc (-1000002) kc_X3_59 (by decide) dX3_layOut_39 ?_
      refine o_iret hQ hlk hrt dX3_layOut_41 ?_
      first | exact xPost.n (fun q => gb q.2.1) (by rw [eSt, if_pos ga]) | exact xPost.n (fun q => gc q.2.2.1) (by rw [eSt, if_pos ga]) | exact xPost.n (fun q => gd q.2.2.2) (by rw [eSt, if_pos ga])
    · skip
      have gb := bP_n0.mp h14
      refine v_iload_n 3 dX3_layOut_17 rfl rfl ?_
      refine v_iconst dX3_layOut_18 ?_
      refine v_bipush dX3_layOut_19 (by decide) ?_
      refine oSv3 (c_X3_isWithin (by omega) (by decide) (by decide)) k0_X3_isWithin ki_X3_isWithin ml_X3_55 (vRo_of hxR (by decide) (by decide)) dX3_layOut_21 (Nat.le_of_ble_eq_true rfl) ?_
      refine v_if_eq 39 dX3_layOut_24 (by decide) (bP_R _) (fun h24 => ?_) (fun h24 => ?_)
      · skip
        have gc := bP_0.mp h24
        refine v_ldc (-1000002) kc_X3_59 (by decide) dX3_layOut_39 ?_
        refine o_iret hQ hlk hrt dX3_layOut_41 ?_
        first | exact xPost.n (fun q => gb q.2.1) (by rw [eSt, if_pos ga]) | exact xPost.n (fun q => gc q.2.2.1) (by rw [eSt, if_pos ga]) | exact xPost.n (fun q => gd q.2.2.2) (by rw [eSt, if_pos ga])
      · skip
        have gc := bP_n0.mp h24
        refine v_iload dX3_layOut_27 rfl ?_
        refine v_iconst dX3_layOut_29 ?_
        refine v_sipush dX3_layOut_30 (by decide) ?_
        refine oSv3 (c_X3_isWithin (by omega) (by decide) (by decide)) k0_X3_isWithin ki_X3_isWithin ml_X3_55 (vRo_of hxR (by decide) (by decide)) dX3_layOut_33 (Nat.le_of_ble_eq_true rfl) ?_
        refine v_if_ne 42 dX3_layOut_36 (by decide) (bP_R _) (fun h36 => ?_) (fun h36 => ?_)
        · skip
          have gd := bP_n0.mp h36
          refine v_aload_n 0 dX3_layOut_42 rfl rfl ?_
          refine oVm0 3 (c_X3_remember hLX hX hI hr hr5 hh hB) k0_X3_remember ki_X3_remember ml_X3_60 (rfl : SH 0 = _) (by decide) (vRo_of hxR (by decide) (by decide)) dX3_layOut_43 (Nat.le_of_ble_eq_true rfl) (fun N hN => ?_)
          have hR := hN
          have hLN := hLX.keep hR.2.1
          have hbb := (xh_p (P := fun b => stB b ∧ 40 ≤ b ∧ b ≤ 80) (r := r) hB (min r 4) (by omega)).2
          have hXN : XS 1 v N.1 := hX.keep (fun i h1 h2 => hR.2.2.2.2.2 i (by omega) (by omega))
          have hF : fz 1 11 26 40 N N := fz_rf
          have hXK := hXN
          refine v_aload_n 0 dX3_layOut_46 rfl rfl ?_
          refine v_getR lk_X3_10 rfl (rfl : SH 0 = _) (ow_0 hLN) dX3_layOut_47 ?_
          refine v_getR lk_X3_63 rfl (st_o stB_1) (hLN.1 1 stB_1 1 (by decide)) dX3_layOut_50 ?_
          refine v_iload_n 1 dX3_layOut_53 rfl rfl ?_
          refine o_iald (j := s) (u := (v (24 + 5 * s + 1))) (st_a1 stB_1) (by omega) (by omega) (xs_dem hXN (by omega)) dX3_layOut_54 ?_
          refine v_ist5 dX3_layOut_55 rfl ?_
          refine v_aload_n 0 dX3_layOut_57 rfl rfl ?_
          refine v_getR lk_X3_10 rfl (rfl : SH 0 = _) (ow_0 hLN) dX3_layOut_58 ?_
          refine v_getR lk_X3_67 rfl (st_o stB_1) (hLN.1 1 stB_1 0 (by decide)) dX3_layOut_61 ?_
          refine v_iload_n 1 dX3_layOut_64 rfl rfl ?_
          refine v_iload_n 2 dX3_layOut_65 rfl rfl ?_
          refine o_iast (j := s) (by omega) (st_a0 stB_1) (by omega) (by omega) dX3_layOut_66 ?_
          refine o_wz (a := 1) (c := 11) (a2 := 26) (c2 := 40) (M0 := N) hF (by omega) (fun K hF ei ej => ?_)
          have hXK := (xs_cell (xs_uman hXK (by omega) mb) ei ej)
          have hLK := fz_layX hF hLN
          refine v_aload_n 0 dX3_layOut_67 rfl rfl ?_
          refine v_getR lk_X3_10 rfl (rfl : SH 0 = _) (ow_0 hLK) dX3_layOut_68 ?_
          refine v_getR lk_X3_63 rfl (st_o stB_1) (hLK.1 1 stB_1 1 (by decide)) dX3_layOut_71 ?_
          refine v_iload_n 1 dX3_layOut_74 rfl rfl ?_
          refine v_iload_n 3 dX3_layOut_75 rfl rfl ?_
          refine o_iast (j := s) (by omega) (st_a1 stB_1) (by omega) (by omega) dX3_layOut_76 ?_
          refine o_wz (a := 1) (c := 11) (a2 := 26) (c2 := 40) (M0 := N) hF (by omega) (fun K hF ei ej => ?_)
          have hXK := (xs_cell (xs_udem hXK (by omega) c) ei ej)
          have hLK := fz_layX hF hLN
          refine v_aload_n 0 dX3_layOut_77 rfl rfl ?_
          refine v_getR lk_X3_10 rfl (rfl : SH 0 = _) (ow_0 hLK) dX3_layOut_78 ?_
          refine v_getR lk_X3_70 rfl (st_o stB_1) (hLK.1 1 stB_1 2 (by decide)) dX3_layOut_81 ?_
          refine v_iload_n 1 dX3_layOut_84 rfl rfl ?_
          refine v_iload dX3_layOut_85 rfl ?_
          refine o_iast (j := s) (by omega) (st_a2 stB_1) (by omega) (by omega) dX3_layOut_87 ?_
          refine o_wz (a := 1) (c := 11) (a2 := 26) (c2 := 40) (M0 := N) hF (by omega) (fun K hF ei ej => ?_)
          have hXK := (xs_cell (xs_ulea hXK (by omega) d) ei ej)
          have hLK := fz_layX hF hLN
          refine v_iconst dX3_layOut_88 ?_
          refine v_ist6 dX3_layOut_89 rfl ?_
          have lp91 : ∀ (dd k : Nat) (K : Mem), k + dd = 24 → fz 1 11 26 40 N K → XS 1 (layK (sup (sup (sup v (24 + 5 * s) mb) (24 + 5 * s + 1) c) (24 + 5 * s + 2) d) s k) K.1 → vO x Q G cX3_layOut RX3 91 [some (aR (some 0)), some (aI (s : Int)), some (aI mb), some (aI c), some (aI d), some (aI (v (24 + 5 * s + 1))), some (aI (k : Int))] [] K := by
            intro dd
            induction dd with
            | zero =>
              intro k K hd hF hXK
              obtain rfl : k = 24 := by omega
              have hLK := fz_layX hF hLN
              refine v_iload dX3_layOut_91 rfl ?_
              refine v_bipush dX3_layOut_93 (by decide) ?_
              refine v_icmp_ge 119 dX3_layOut_95 (by decide) (by omega) (by decide) (fun h95 => ?_) (fun h95 => ?_)
              · skip
                refine v_iload dX3_layOut_119 rfl ?_
                refine o_iret hQ hlk hrt dX3_layOut_121 ?_
                exact xPost.y ⟨ga, gb, gc, gd⟩ rfl hR hF hXK (layK_e v (by omega) mb c d)
              · skip
                exact absurd h95 (by omega)
            | succ dd ih =>
              intro k K hd hF hXK
              have hLK := fz_layX hF hLN
              refine v_iload dX3_layOut_91 rfl ?_
              refine v_bipush dX3_layOut_93 (by decide) ?_
              refine v_icmp_ge 119 dX3_layOut_95 (by decide) (by omega) (by decide) (fun h95 => ?_) (fun h95 => ?_)
              · skip
                exact absurd h95 (by omega)
              · skip
                refine v_aload_n 0 dX3_layOut_98 rfl rfl ?_
                refine v_getR lk_X3_10 rfl (rfl : SH 0 = _) (ow_0 hLK) dX3_layOut_99 ?_
                refine v_getR lk_X3_73 rfl (st_o stB_1) (hLK.1 1 stB_1 5 (by decide)) dX3_layOut_102 ?_
                refine v_iload_n 1 dX3_layOut_105 rfl rfl ?_
                refine v_iload dX3_layOut_106 rfl ?_
                refine oSv2 (c_X3_pipeIndex) k0_X3_pipeIndex ki_X3_pipeIndex ml_X3_76 (vRo_of hxR (by decide) (by decide)) dX3_layOut_108 (Nat.le_of_ble_eq_true rfl) ?_
                refine v_iconst dX3_layOut_111 ?_
                refine o_iast (j := 24 * s + k) (by omega) (st_a5 stB_1) (by omega) (by omega) dX3_layOut_112 ?_
                refine o_wz (a := 1) (c := 11) (a2 := 26) (c2 := 40) (M0 := N) hF (by omega) (fun K hF ei ej => ?_)
                have hXK := (xs_cell (xs_uoff (j := 24 * s + k) hXK (by omega) 0) ei ej)
                have hLK := fz_layX hF hLN
                refine v_iinc6 dX3_layOut_113 rfl ?_
                refine v_goto 91 dX3_layOut_116 (by decide) ?_
                exact ih (k + 1) K (by omega) hF (by rw [← layK_s]; exact hXK)
          exact lp91 24 0 K rfl hF (by rw [layK_0]; exact hXK)
        · skip
          have gd := bP_0.mp h36
          refine v_ldc (-1000002) kc_X3_59 (by decide) dX3_layOut_39 ?_
          refine o_iret hQ hlk hrt dX3_layOut_41 ?_
          first | exact xPost.n (fun q => gb q.2.1) (by rw [eSt, if_pos ga]) | exact xPost.n (fun q => gc q.2.2.1) (by rw [eSt, if_pos ga]) | exact xPost.n (fun q => gd q.2.2.2) (by rw [eSt, if_pos ga])
  · skip
    have ga := bP_0.mp h4
    refine v_ldc (-1000001) kc_X3_51 (by decide) dX3_layOut_7 ?_
    refine o_iret hQ hlk hrt dX3_layOut_9 ?_
    exact xPost.n (fun q => ga q.1) (by rw [eSt, if_neg ga])
