/-! ===== the class: a State stands for a row ===== -/
def sGo (v : Sg) : Nat → Int
  | 0 => 0
  | s + 1 => sGo v s + v (24 + 5 * s + 4)
def XS (b : Nat) (v : Sg) (f : Nat → Nat → Int) : Prop :=
  (∀ s, s < 8 → f (b + 1 + 0) s = v (24 + 5 * s) ∧ f (b + 1 + 1) s = v (24 + 5 * s + 1) ∧ f (b + 1 + 2) s = v (24 + 5 * s + 2) ∧ f (b + 1 + 3) s = v (24 + 5 * s + 4) ∧ f (b + 1 + 4) s = v (256 + s)) ∧
  ((∀ p, p < 192 → f (b + 1 + 5) p = v (64 + p)) ∧ (∀ k, k < 9 → f (b + 1 + 6) k = v (1 + k)) ∧ (∀ m, m < 2 → f (b + 1 + 7) m = v (11 + m)) ∧ (∀ m, m < 2 → f (b + 1 + 8) m = v (18 + m))) ∧
  (f b 9 = ((sDrw v : Nat) : Int) ∧ f b 10 = v 10 % 2 ∧ f b 11 = v 10 / 2) ∧
  (f b 12 = v 0 ∧ f b 13 = v 13 ∧ f b 14 = v 14 ∧ f b 15 = v 16 ∧ f b 16 = 1 - v 17 ∧ f b 17 = v 20 ∧ f b 19 = v 22 ∧ (0 < v 22 → f b 18 = v 23 / v 21)) ∧ v 15 = sGo v 8
section XSA
variable {b : Nat} {v : Sg} {f : Nat → Nat → Int}
theorem xs_man (h : XS b v f) {s : Nat} (hs : s < 8) : f (b + 1 + 0) s = v (24 + 5 * s) := (h.1 s hs).1
theorem xs_dem (h : XS b v f) {s : Nat} (hs : s < 8) : f (b + 1 + 1) s = v (24 + 5 * s + 1) := (h.1 s hs).2.1
theorem xs_lea (h : XS b v f) {s : Nat} (hs : s < 8) : f (b + 1 + 2) s = v (24 + 5 * s + 2) := (h.1 s hs).2.2.1
theorem xs_got (h : XS b v f) {s : Nat} (hs : s < 8) : f (b + 1 + 3) s = v (24 + 5 * s + 4) := (h.1 s hs).2.2.2.1
theorem xs_cip (h : XS b v f) {s : Nat} (hs : s < 8) : f (b + 1 + 4) s = v (256 + s) := (h.1 s hs).2.2.2.2
theorem xs_off (h : XS b v f) {p : Nat} (hp : p < 192) : f (b + 1 + 5) p = v (64 + p) := h.2.1.1 p hp
theorem xs_set (h : XS b v f) {k : Nat} (hk : k < 9) : f (b + 1 + 6) k = v (1 + k) := h.2.1.2.1 k hk
theorem xs_pre (h : XS b v f) {m : Nat} (hm : m < 2) : f (b + 1 + 7) m = v (11 + m) := h.2.1.2.2.1 m hm
theorem xs_sb (h : XS b v f) {m : Nat} (hm : m < 2) : f (b + 1 + 8) m = v (18 + m) := h.2.1.2.2.2 m hm
theorem xs_drw (h : XS b v f) : f b 9 = ((sDrw v : Nat) : Int) := h.2.2.1.1
theorem xs_mc (h : XS b v f) : f b 10 = v 10 % 2 := h.2.2.1.2.1
theorem xs_oc (h : XS b v f) : f b 11 = v 10 / 2 := h.2.2.1.2.2
theorem xs_vol (h : XS b v f) : f b 12 = v 0 := h.2.2.2.1.1
theorem xs_tim (h : XS b v f) : f b 13 = v 13 := h.2.2.2.1.2.1
theorem xs_mad (h : XS b v f) : f b 14 = v 14 := h.2.2.2.1.2.2.1
theorem xs_spi (h : XS b v f) : f b 15 = v 16 := h.2.2.2.1.2.2.2.1
theorem xs_lf (h : XS b v f) : f b 16 = 1 - v 17 := h.2.2.2.1.2.2.2.2.1
theorem xs_sl (h : XS b v f) : f b 17 = v 20 := h.2.2.2.1.2.2.2.2.2.1
theorem xs_st (h : XS b v f) : f b 19 = v 22 := h.2.2.2.1.2.2.2.2.2.2.1
theorem xs_sp (h : XS b v f) (q : 0 < v 22) : f b 18 = v 23 / v 21 := h.2.2.2.1.2.2.2.2.2.2.2 q
theorem xs_sum (h : XS b v f) : v 15 = sGo v 8 := h.2.2.2.2
theorem XS.keep (h : XS b v f) {g : Nat → Nat → Int} (e : ∀ i, b ≤ i → i < b + 10 → g i = f i) : XS b v g := by
  unfold XS at h ⊢
  rw [e (b + 1 + 0) (by omega) (by omega), e (b + 1 + 1) (by omega) (by omega), e (b + 1 + 2) (by omega) (by omega), e (b + 1 + 3) (by omega) (by omega), e (b + 1 + 4) (by omega) (by omega), e (b + 1 + 5) (by omega) (by omega), e (b + 1 + 6) (by omega) (by omega), e (b + 1 + 7) (by omega) (by omega), e (b + 1 + 8) (by omega) (by omega), e b (by omega) (by omega)]
  exact h
end XSA
/-- cells outside two ranges are as they were -/
def fz (a c a2 c2 : Nat) (M0 M : Mem) : Prop := M.2 = M0.2 ∧ ∀ i, (i < a ∨ c ≤ i) → (i < a2 ∨ c2 ≤ i) → M.1 i = M0.1 i
theorem fz_rf {a c a2 c2 : Nat} {M : Mem} : fz a c a2 c2 M M := ⟨rfl, fun _ _ _ => rfl⟩
theorem fz_tr {a c a2 c2 d e d2 e2 : Nat} {M0 M M2 : Mem} (h : fz a c a2 c2 M0 M) (h2 : fz d e d2 e2 M M2) (hs : ∀ i, (i < a ∨ c ≤ i) → (i < a2 ∨ c2 ≤ i) → (i < d ∨ e ≤ i) ∧ (i < d2 ∨ e2 ≤ i)) : fz a c a2 c2 M0 M2 :=
  ⟨h2.1.trans h.1, fun i h3 h4 => (h2.2 i (hs i h3 h4).1 (hs i h3 h4).2).trans (h.2 i h3 h4)⟩
theorem fz_layX {a c a2 c2 : Nat} {M0 M : Mem} (h : fz a c a2 c2 M0 M) (hl : LayX M0.2) : LayX M.2 := by rw [h.1]; exact hl
section OW
variable {x : vXX} {Q : State → Prop} {G : vGG} {cc : ByteArray} {own : String} {pc : Nat} {ls : List (Option AV)} {st : List AV} {M : Mem}
theorem o_wr {i k : Nat} {z : Int} (kk : ∀ K : Mem, K.2 = M.2 → (∀ i', i' ≠ i → K.1 i' = M.1 i') → (∀ j, K.1 i j = if j = k then z else M.1 i j) → vO x Q G cc own pc ls st K) : vO x Q G cc own pc ls st (vup M.1 i k z, M.2) :=
  kk _ rfl (fun i' h => by funext j; dsimp only; rw [vup_o (.inl h)]) (fun j => by dsimp only; rw [vup_in])
end OW
set_option maxRecDepth 100000 in
set_option maxHeartbeats 400000 in
theorem c_X0_manualOf {l : Launch} {G : vGG} {M : Mem} {v : Sg} {b : Nat} (hb : stB b) (hLX : LayX M.2) (hX : XS b v M.1) (hI : sInv v) {s : Nat} (hs : s < 8) : Cv l yX0_manualOf cX0_manualOf 2 (some .int) (rmo 0 0) G [aR (some b), aI (s : Int)] M (some (aI ((sMan v s : Nat) : Int))) M := by
  refine Co.ofV (plainFor_of_name (by decide)) rfl rfl ?_
  intro x hxl hxR hlk hrt Q hQ
  have hm := sMan_lt hI hs
  have hs1 := iv_st hI hs
  show vO x Q G cX0_manualOf RX0 0 [some (aR (some b)), some (aI (s : Int))] [] M
  refine v_aload_n 0 dX0_manualOf_0 rfl rfl ?_
  refine v_getR lk_X0_9 rfl (st_o hb) (hLX.1 b hb 0 (by decide)) dX0_manualOf_1 ?_
  refine v_iload_n 1 dX0_manualOf_4 rfl rfl ?_
  refine o_iald (j := s) (u := v (24 + 5 * (s))) (st_a0 hb) (by omega) (by omega) (xs_man hX (by omega)) dX0_manualOf_5 ?_
  refine v_if_ne 13 dX0_manualOf_6 (by decide) (by omega) (fun h6 => ?_) (fun h6 => ?_)
  · skip
    refine v_iconst dX0_manualOf_13 ?_
    refine o_iret hQ hlk hrt dX0_manualOf_14 ?_
    first | exact ⟨by rw [show sMan v s = 0 by omega]; rfl, rfl⟩ | exact ⟨by rw [show sMan v s = 1 by omega]; rfl, rfl⟩
  · skip
    refine v_iconst dX0_manualOf_9 ?_
    refine v_goto 14 dX0_manualOf_10 (by decide) ?_
    refine o_iret hQ hlk hrt dX0_manualOf_14 ?_
    first | exact ⟨by rw [show sMan v s = 0 by omega]; rfl, rfl⟩ | exact ⟨by rw [show sMan v s = 1 by omega]; rfl, rfl⟩
set_option maxRecDepth 100000 in
set_option maxHeartbeats 400000 in
theorem c_X0_need {l : Launch} {G : vGG} {M : Mem} {v : Sg} {b : Nat} (hb : stB b) (hLX : LayX M.2) (hX : XS b v M.1) (hI : sInv v) {s k : Nat} (hs : s < 8) (hk : k < 24) : Cv l yX0_need cX0_need 3 (some .int) (rmo 0 0) G [aR (some b), aI (s : Int), aI (k : Int)] M (some (aI (sNeed v s k))) M := by
  refine Co.ofV (plainFor_of_name (by decide)) rfl rfl ?_
  intro x hxl hxR hlk hrt Q hQ
  show vO x Q G cX0_need RX0 0 [some (aR (some b)), some (aI (s : Int)), some (aI (k : Int))] [] M
  refine v_aload_n 0 dX0_need_0 rfl rfl ?_
  refine v_getR lk_X0_15 rfl (st_o hb) (hLX.1 b hb 1 (by decide)) dX0_need_1 ?_
  refine v_iload_n 1 dX0_need_4 rfl rfl ?_
  refine o_iald (j := s) (u := v (24 + 5 * (s) + 1)) (st_a1 hb) (by omega) (by omega) (xs_dem hX (by omega)) dX0_need_5 ?_
  refine v_bipush dX0_need_6 (by decide) ?_
  refine v_iload_n 2 dX0_need_8 rfl rfl ?_
  refine v_isub dX0_need_9 ?_
  refine v_iconst dX0_need_10 ?_
  refine v_idiv dX0_need_11 (by omega) (by decide) (by omega) ?_
  refine v_iadd dX0_need_12 ?_
  refine o_iret hQ hlk hrt dX0_need_13 ?_
  exact ⟨by rw [nu_tdiv (by omega)]; rfl, rfl⟩
theorem xa_0 {v : Sg} (h : sInv v) (hc : v 10 / 2 = 0) : v 11 = ((sAct0 v true : Nat) : Int) := by
  have hk := iv_key h
  rw [sAct0, if_neg (by omega)]
  show v 11 = (((v 11).toNat : Nat) : Int)
  omega
theorem xa_1 {v : Sg} (h : sInv v) (hc : ¬ v 10 / 2 = 0) : vor (v 11) (vand (vshl (v 11) 12) 16777215) = ((sAct0 v true : Nat) : Int) := by
  have hk := iv_key h
  rw [nu_octX hk.2.1.1 hk.2.1.2, sAct0, if_pos (by omega)]
  rfl
theorem xa_2 {v : Sg} (h : sInv v) (hd : ¬ v 10 % 2 = 0) : vor (v 12) ((sAct0 v true : Nat) : Int) = ((sAct1 v true : Nat) : Int) := by
  have hk := iv_key h
  exact ac1_t1 h (by omega)
theorem xa_3 {v : Sg} (h : sInv v) (hd : v 10 % 2 = 0) : v 12 = ((sAct1 v true : Nat) : Int) := by
  have hk := iv_key h
  rw [sAct1, if_neg (by omega)]
  show v 12 = (((v 12).toNat : Nat) : Int)
  omega
set_option maxRecDepth 100000 in
set_option maxHeartbeats 400000 in
theorem c_X0_actingKeys {l : Launch} {G : vGG} {M : Mem} {v : Sg} {b : Nat} (hb : stB b) (hLX : LayX M.2) (hX : XS b v M.1) (hI : sInv v) {m : Nat} (hm : m < 2) : Cv l yX0_actingKeys cX0_actingKeys 3 (some .int) (rmo 0 0) G [aR (some b), aI (m : Int)] M (some (aI ((sAct v true m : Nat) : Int))) M := by
  refine Co.ofV (plainFor_of_name (by decide)) rfl rfl ?_
  intro x hxl hxR hlk hrt Q hQ
  have hk := iv_key hI
  show vO x Q G cX0_actingKeys RX0 0 [some (aR (some b)), some (aI (m : Int)), none] [] M
  refine v_aload_n 0 dX0_actingKeys_0 rfl rfl ?_
  refine v_getR lk_X0_33 rfl (st_o hb) (hLX.1 b hb 7 (by decide)) dX0_actingKeys_1 ?_
  refine v_iconst dX0_actingKeys_4 ?_
  refine o_iald (j := 0) (u := (v 11)) (st_a7 hb) (by omega) (by omega) (xs_pre hX (m := 0) (by decide)) dX0_actingKeys_5 ?_
  refine v_ist2 dX0_actingKeys_6 rfl ?_
  refine v_aload_n 0 dX0_actingKeys_7 rfl rfl ?_
  refine o_getI (u := (v 10 / 2)) lk_X0_62 rfl (st_o hb) (xs_oc hX) dX0_actingKeys_8 ?_
  have jn29 : ∀ z : Int, z = ((sAct0 v true : Nat) : Int) → vO x Q G cX0_actingKeys RX0 29 [some (aR (some b)), some (aI (m : Int)), some (aI z)] [] M := by
    intro z hz
    subst hz
    refine v_iload_n 1 dX0_actingKeys_29 rfl rfl ?_
    refine v_if_ne 35 dX0_actingKeys_30 (by decide) (by omega) (fun h30 => ?_) (fun h30 => ?_)
    · skip
      refine v_aload_n 0 dX0_actingKeys_35 rfl rfl ?_
      refine o_getI (u := (v 10 % 2)) lk_X0_58 rfl (st_o hb) (xs_mc hX) dX0_actingKeys_36 ?_
      refine v_if_eq 53 dX0_actingKeys_39 (by decide) (by omega) (fun h39 => ?_) (fun h39 => ?_)
      · skip
        refine v_aload_n 0 dX0_actingKeys_53 rfl rfl ?_
        refine v_getR lk_X0_33 rfl (st_o hb) (hLX.1 b hb 7 (by decide)) dX0_actingKeys_54 ?_
        refine v_iconst dX0_actingKeys_57 ?_
        refine o_iald (j := 1) (u := (v 12)) (st_a7 hb) (by omega) (by omega) (xs_pre hX (m := 1) (by decide)) dX0_actingKeys_58 ?_
        refine o_iret hQ hlk hrt dX0_actingKeys_59 ?_
        first | exact ⟨by rw [show m = 1 by omega]; rfl, rfl⟩ | exact ⟨by rw [show m = 1 by omega, xa_3 hI (by omega)]; rfl, rfl⟩
      · skip
        refine v_aload_n 0 dX0_actingKeys_42 rfl rfl ?_
        refine v_getR lk_X0_33 rfl (st_o hb) (hLX.1 b hb 7 (by decide)) dX0_actingKeys_43 ?_
        refine v_iconst dX0_actingKeys_46 ?_
        refine o_iald (j := 1) (u := (v 12)) (st_a7 hb) (by omega) (by omega) (xs_pre hX (m := 1) (by decide)) dX0_actingKeys_47 ?_
        refine v_iload_n 2 dX0_actingKeys_48 rfl rfl ?_
        refine v_ior dX0_actingKeys_49 ?_
        refine o_eqI (xa_2 hI (by omega)) ?_
        refine v_goto 59 dX0_actingKeys_50 (by decide) ?_
        refine o_iret hQ hlk hrt dX0_actingKeys_59 ?_
        first | exact ⟨by rw [show m = 1 by omega]; rfl, rfl⟩ | exact ⟨by rw [show m = 1 by omega, xa_3 hI (by omega)]; rfl, rfl⟩
    · skip
      refine v_iload_n 2 dX0_actingKeys_33 rfl rfl ?_
      refine o_iret hQ hlk hrt dX0_actingKeys_34 ?_
      exact ⟨by rw [show m = 0 by omega]; rfl, rfl⟩
  refine v_if_eq 29 dX0_actingKeys_11 (by decide) (by omega) (fun h11 => ?_) (fun h11 => ?_)
  · skip
    first | (with_reducible exact jn29 _ (xa_0 hI (by omega))) | (with_reducible exact jn29 _ (xa_1 hI (by omega)))
  · skip
    refine v_iload_n 2 dX0_actingKeys_14 rfl rfl ?_
    refine v_aload_n 0 dX0_actingKeys_15 rfl rfl ?_
    refine v_getR lk_X0_33 rfl (st_o hb) (hLX.1 b hb 7 (by decide)) dX0_actingKeys_16 ?_
    refine v_iconst dX0_actingKeys_19 ?_
    refine o_iald (j := 0) (u := (v 11)) (st_a7 hb) (by omega) (by omega) (xs_pre hX (m := 0) (by decide)) dX0_actingKeys_20 ?_
    refine v_bipush dX0_actingKeys_21 (by decide) ?_
    refine v_ishl dX0_actingKeys_23 ?_
    refine v_ldc (16777215) kc_X0_83 (by decide) dX0_actingKeys_24 ?_
    refine v_iand dX0_actingKeys_26 ?_
    refine v_ior dX0_actingKeys_27 ?_
    refine v_ist2 dX0_actingKeys_28 rfl ?_
    first | (with_reducible exact jn29 _ (xa_0 hI (by omega))) | (with_reducible exact jn29 _ (xa_1 hI (by omega)))
set_option maxRecDepth 100000 in
set_option maxHeartbeats 400000 in
theorem c_X0_reservoirPressure {l : Launch} {G : vGG} {M : Mem} {v : Sg} {b : Nat} (hb : stB b) (hLX : LayX M.2) (hX : XS b v M.1) (hI : sInv v) : Cv l yX0_reservoirPressure cX0_reservoirPressure 1 (some .int) (rmo 2 43) G [aR (some b)] M (some (aI (sRes v))) M := by
  refine Co.ofV (plainFor_of_name (by decide)) rfl rfl ?_
  intro x hxl hxR hlk hrt Q hQ
  have hs := iv_set hI
  have hbe := iv_bel hI
  have hm := rs_b hI
  show vO x Q G cX0_reservoirPressure RX0 0 [some (aR (some b))] [] M
  refine v_aload_n 0 dX0_reservoirPressure_0 rfl rfl ?_
  refine o_getI (u := (v 0)) lk_X0_39 rfl (st_o hb) (xs_vol hX) dX0_reservoirPressure_1 ?_
  refine v_aload_n 0 dX0_reservoirPressure_4 rfl rfl ?_
  refine v_getR lk_X0_30 rfl (st_o hb) (hLX.1 b hb 6 (by decide)) dX0_reservoirPressure_5 ?_
  refine v_iconst dX0_reservoirPressure_8 ?_
  refine o_iald (j := 3) (u := (v 4)) (st_a6 hb) (by omega) (by omega) (xs_set hX (k := 3) (by decide)) dX0_reservoirPressure_9 ?_
  refine v_icmp_lt 20 dX0_reservoirPressure_10 (by decide) (by omega) (by omega) (fun h10 => ?_) (fun h10 => ?_)
  · skip
    refine v_aload_n 0 dX0_reservoirPressure_20 rfl rfl ?_
    refine v_getR lk_X0_30 rfl (st_o hb) (hLX.1 b hb 6 (by decide)) dX0_reservoirPressure_21 ?_
    refine v_iconst dX0_reservoirPressure_24 ?_
    refine o_iald (j := 0) (u := (v 1)) (st_a6 hb) (by omega) (by omega) (xs_set hX (k := 0) (by decide)) dX0_reservoirPressure_25 ?_
    refine v_aload_n 0 dX0_reservoirPressure_26 rfl rfl ?_
    refine o_getI (u := (v 0)) lk_X0_39 rfl (st_o hb) (xs_vol hX) dX0_reservoirPressure_27 ?_
    refine v_imul dX0_reservoirPressure_30 ?_
    refine v_aload_n 0 dX0_reservoirPressure_31 rfl rfl ?_
    refine v_getR lk_X0_30 rfl (st_o hb) (hLX.1 b hb 6 (by decide)) dX0_reservoirPressure_32 ?_
    refine v_iconst dX0_reservoirPressure_35 ?_
    refine o_iald (j := 3) (u := (v 4)) (st_a6 hb) (by omega) (by omega) (xs_set hX (k := 3) (by decide)) dX0_reservoirPressure_36 ?_
    refine oSNv2 (c_X3_divide (by omega) (by omega)) k0_X3_divide ki_X3_divide ml_X0_84 (vRo_of hxR (by decide) (by decide)) dX0_reservoirPressure_37 (Nat.le_of_ble_eq_true rfl) ?_
    refine o_iret hQ hlk hrt dX0_reservoirPressure_40 ?_
    exact ⟨by unfold sRes; rw [if_neg (by omega)], rfl⟩
  · skip
    refine v_aload_n 0 dX0_reservoirPressure_13 rfl rfl ?_
    refine v_getR lk_X0_30 rfl (st_o hb) (hLX.1 b hb 6 (by decide)) dX0_reservoirPressure_14 ?_
    refine v_iconst dX0_reservoirPressure_17 ?_
    refine o_iald (j := 0) (u := (v 1)) (st_a6 hb) (by omega) (by omega) (xs_set hX (k := 0) (by decide)) dX0_reservoirPressure_18 ?_
    refine o_iret hQ hlk hrt dX0_reservoirPressure_19 ?_
    exact ⟨by unfold sRes; rw [if_pos (by omega)], rfl⟩
