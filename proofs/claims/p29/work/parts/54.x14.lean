/-! ===== the class: changes ===== -/
theorem xs_uman {b : Nat} {v : Sg} {f : Nat → Nat → Int} (h : XS b v f) {j : Nat} (hj : j < 8) (z : Int) : XS b (sup v (24 + 5 * j) z) (vup f (b + 1 + 0) j z) := by
  have e : ∀ i, i ≠ 24 + 5 * j → sup v (24 + 5 * j) z i = v i := fun i hi => sup_ne _ _ hi
  have c : ∀ k t, k ≠ 0 → vup f (b + 1 + 0) j z (b + 1 + k) t = f (b + 1 + k) t := fun k t hk => vup_o (by omega)
  have d : ∀ t, vup f (b + 1 + 0) j z b t = f b t := fun t => vup_o (by omega)
  refine ⟨fun s hs => ⟨(by rw [vup_in]; by_cases q : s = j; (rw [if_pos q, q, sup_eq]); rw [if_neg q, e _ (by omega)]; exact xs_man h hs), ((c 1 s (by decide)).trans ((xs_dem h hs).trans (e _ (by omega)).symm)), ((c 2 s (by decide)).trans ((xs_lea h hs).trans (e _ (by omega)).symm)), ((c 3 s (by decide)).trans ((xs_got h hs).trans (e _ (by omega)).symm)), ((c 4 s (by decide)).trans ((xs_cip h hs).trans (e _ (by omega)).symm))⟩, ⟨fun s hs => ((c 5 s (by decide)).trans ((xs_off h hs).trans (e _ (by omega)).symm)), fun s hs => ((c 6 s (by decide)).trans ((xs_set h hs).trans (e _ (by omega)).symm)), fun s hs => ((c 7 s (by decide)).trans ((xs_pre h hs).trans (e _ (by omega)).symm)), fun s hs => ((c 8 s (by decide)).trans ((xs_sb h hs).trans (e _ (by omega)).symm))⟩, ⟨?_, ?_, ?_⟩, ⟨?_, ?_, ?_, ?_, ?_, ?_, ?_, fun q => ?_⟩, ?_⟩
  · rw [d, sDrw_congr (fun t ht => e _ (by omega))]; exact xs_drw h
  · rw [d, e 10 (by omega)]; exact xs_mc h
  · rw [d, e 10 (by omega)]; exact xs_oc h
  · rw [d, e 0 (by omega)]; exact xs_vol h
  · rw [d, e 13 (by omega)]; exact xs_tim h
  · rw [d, e 14 (by omega)]; exact xs_mad h
  · rw [d, e 16 (by omega)]; exact xs_spi h
  · rw [d, e 17 (by omega)]; exact xs_lf h
  · rw [d, e 20 (by omega)]; exact xs_sl h
  · rw [d, e 22 (by omega)]; exact xs_st h
  · rw [e 22 (by omega)] at q
    rw [d, e 23 (by omega), e 21 (by omega)]; exact xs_sp h q
  · rw [e 15 (by omega), sGo_congr 8 (fun t ht => e _ (by omega))]; exact xs_sum h
theorem xs_udem {b : Nat} {v : Sg} {f : Nat → Nat → Int} (h : XS b v f) {j : Nat} (hj : j < 8) (z : Int) : XS b (sup v (24 + 5 * j + 1) z) (vup f (b + 1 + 1) j z) := by
  have e : ∀ i, i ≠ 24 + 5 * j + 1 → sup v (24 + 5 * j + 1) z i = v i := fun i hi => sup_ne _ _ hi
  have c : ∀ k t, k ≠ 1 → vup f (b + 1 + 1) j z (b + 1 + k) t = f (b + 1 + k) t := fun k t hk => vup_o (by omega)
  have d : ∀ t, vup f (b + 1 + 1) j z b t = f b t := fun t => vup_o (by omega)
  refine ⟨fun s hs => ⟨((c 0 s (by decide)).trans ((xs_man h hs).trans (e _ (by omega)).symm)), (by rw [vup_in]; by_cases q : s = j; (rw [if_pos q, q, sup_eq]); rw [if_neg q, e _ (by omega)]; exact xs_dem h hs), ((c 2 s (by decide)).trans ((xs_lea h hs).trans (e _ (by omega)).symm)), ((c 3 s (by decide)).trans ((xs_got h hs).trans (e _ (by omega)).symm)), ((c 4 s (by decide)).trans ((xs_cip h hs).trans (e _ (by omega)).symm))⟩, ⟨fun s hs => ((c 5 s (by decide)).trans ((xs_off h hs).trans (e _ (by omega)).symm)), fun s hs => ((c 6 s (by decide)).trans ((xs_set h hs).trans (e _ (by omega)).symm)), fun s hs => ((c 7 s (by decide)).trans ((xs_pre h hs).trans (e _ (by omega)).symm)), fun s hs => ((c 8 s (by decide)).trans ((xs_sb h hs).trans (e _ (by omega)).symm))⟩, ⟨?_, ?_, ?_⟩, ⟨?_, ?_, ?_, ?_, ?_, ?_, ?_, fun q => ?_⟩, ?_⟩
  · rw [d, sDrw_congr (fun t ht => e _ (by omega))]; exact xs_drw h
  · rw [d, e 10 (by omega)]; exact xs_mc h
  · rw [d, e 10 (by omega)]; exact xs_oc h
  · rw [d, e 0 (by omega)]; exact xs_vol h
  · rw [d, e 13 (by omega)]; exact xs_tim h
  · rw [d, e 14 (by omega)]; exact xs_mad h
  · rw [d, e 16 (by omega)]; exact xs_spi h
  · rw [d, e 17 (by omega)]; exact xs_lf h
  · rw [d, e 20 (by omega)]; exact xs_sl h
  · rw [d, e 22 (by omega)]; exact xs_st h
  · rw [e 22 (by omega)] at q
    rw [d, e 23 (by omega), e 21 (by omega)]; exact xs_sp h q
  · rw [e 15 (by omega), sGo_congr 8 (fun t ht => e _ (by omega))]; exact xs_sum h
theorem xs_ulea {b : Nat} {v : Sg} {f : Nat → Nat → Int} (h : XS b v f) {j : Nat} (hj : j < 8) (z : Int) : XS b (sup v (24 + 5 * j + 2) z) (vup f (b + 1 + 2) j z) := by
  have e : ∀ i, i ≠ 24 + 5 * j + 2 → sup v (24 + 5 * j + 2) z i = v i := fun i hi => sup_ne _ _ hi
  have c : ∀ k t, k ≠ 2 → vup f (b + 1 + 2) j z (b + 1 + k) t = f (b + 1 + k) t := fun k t hk => vup_o (by omega)
  have d : ∀ t, vup f (b + 1 + 2) j z b t = f b t := fun t => vup_o (by omega)
  refine ⟨fun s hs => ⟨((c 0 s (by decide)).trans ((xs_man h hs).trans (e _ (by omega)).symm)), ((c 1 s (by decide)).trans ((xs_dem h hs).trans (e _ (by omega)).symm)), (by rw [vup_in]; by_cases q : s = j; (rw [if_pos q, q, sup_eq]); rw [if_neg q, e _ (by omega)]; exact xs_lea h hs), ((c 3 s (by decide)).trans ((xs_got h hs).trans (e _ (by omega)).symm)), ((c 4 s (by decide)).trans ((xs_cip h hs).trans (e _ (by omega)).symm))⟩, ⟨fun s hs => ((c 5 s (by decide)).trans ((xs_off h hs).trans (e _ (by omega)).symm)), fun s hs => ((c 6 s (by decide)).trans ((xs_set h hs).trans (e _ (by omega)).symm)), fun s hs => ((c 7 s (by decide)).trans ((xs_pre h hs).trans (e _ (by omega)).symm)), fun s hs => ((c 8 s (by decide)).trans ((xs_sb h hs).trans (e _ (by omega)).symm))⟩, ⟨?_, ?_, ?_⟩, ⟨?_, ?_, ?_, ?_, ?_, ?_, ?_, fun q => ?_⟩, ?_⟩
  · rw [d, sDrw_congr (fun t ht => e _ (by omega))]; exact xs_drw h
  · rw [d, e 10 (by omega)]; exact xs_mc h
  · rw [d, e 10 (by omega)]; exact xs_oc h
  · rw [d, e 0 (by omega)]; exact xs_vol h
  · rw [d, e 13 (by omega)]; exact xs_tim h
  · rw [d, e 14 (by omega)]; exact xs_mad h
  · rw [d, e 16 (by omega)]; exact xs_spi h
  · rw [d, e 17 (by omega)]; exact xs_lf h
  · rw [d, e 20 (by omega)]; exact xs_sl h
  · rw [d, e 22 (by omega)]; exact xs_st h
  · rw [e 22 (by omega)] at q
    rw [d, e 23 (by omega), e 21 (by omega)]; exact xs_sp h q
  · rw [e 15 (by omega), sGo_congr 8 (fun t ht => e _ (by omega))]; exact xs_sum h
theorem xs_ucip {b : Nat} {v : Sg} {f : Nat → Nat → Int} (h : XS b v f) {j : Nat} (hj : j < 8) (z : Int) : XS b (sup v (256 + j) z) (vup f (b + 1 + 4) j z) := by
  have e : ∀ i, i ≠ 256 + j → sup v (256 + j) z i = v i := fun i hi => sup_ne _ _ hi
  have c : ∀ k t, k ≠ 4 → vup f (b + 1 + 4) j z (b + 1 + k) t = f (b + 1 + k) t := fun k t hk => vup_o (by omega)
  have d : ∀ t, vup f (b + 1 + 4) j z b t = f b t := fun t => vup_o (by omega)
  refine ⟨fun s hs => ⟨((c 0 s (by decide)).trans ((xs_man h hs).trans (e _ (by omega)).symm)), ((c 1 s (by decide)).trans ((xs_dem h hs).trans (e _ (by omega)).symm)), ((c 2 s (by decide)).trans ((xs_lea h hs).trans (e _ (by omega)).symm)), ((c 3 s (by decide)).trans ((xs_got h hs).trans (e _ (by omega)).symm)), (by rw [vup_in]; by_cases q : s = j; (rw [if_pos q, q, sup_eq]); rw [if_neg q, e _ (by omega)]; exact xs_cip h hs)⟩, ⟨fun s hs => ((c 5 s (by decide)).trans ((xs_off h hs).trans (e _ (by omega)).symm)), fun s hs => ((c 6 s (by decide)).trans ((xs_set h hs).trans (e _ (by omega)).symm)), fun s hs => ((c 7 s (by decide)).trans ((xs_pre h hs).trans (e _ (by omega)).symm)), fun s hs => ((c 8 s (by decide)).trans ((xs_sb h hs).trans (e _ (by omega)).symm))⟩, ⟨?_, ?_, ?_⟩, ⟨?_, ?_, ?_, ?_, ?_, ?_, ?_, fun q => ?_⟩, ?_⟩
  · rw [d, sDrw_congr (fun t ht => e _ (by omega))]; exact xs_drw h
  · rw [d, e 10 (by omega)]; exact xs_mc h
  · rw [d, e 10 (by omega)]; exact xs_oc h
  · rw [d, e 0 (by omega)]; exact xs_vol h
  · rw [d, e 13 (by omega)]; exact xs_tim h
  · rw [d, e 14 (by omega)]; exact xs_mad h
  · rw [d, e 16 (by omega)]; exact xs_spi h
  · rw [d, e 17 (by omega)]; exact xs_lf h
  · rw [d, e 20 (by omega)]; exact xs_sl h
  · rw [d, e 22 (by omega)]; exact xs_st h
  · rw [e 22 (by omega)] at q
    rw [d, e 23 (by omega), e 21 (by omega)]; exact xs_sp h q
  · rw [e 15 (by omega), sGo_congr 8 (fun t ht => e _ (by omega))]; exact xs_sum h
theorem xs_uoff {b : Nat} {v : Sg} {f : Nat → Nat → Int} (h : XS b v f) {j : Nat} (hj : j < 192) (z : Int) : XS b (sup v (64 + j) z) (vup f (b + 1 + 5) j z) := by
  have e : ∀ i, i ≠ 64 + j → sup v (64 + j) z i = v i := fun i hi => sup_ne _ _ hi
  have c : ∀ k t, k ≠ 5 → vup f (b + 1 + 5) j z (b + 1 + k) t = f (b + 1 + k) t := fun k t hk => vup_o (by omega)
  have d : ∀ t, vup f (b + 1 + 5) j z b t = f b t := fun t => vup_o (by omega)
  refine ⟨fun s hs => ⟨((c 0 s (by decide)).trans ((xs_man h hs).trans (e _ (by omega)).symm)), ((c 1 s (by decide)).trans ((xs_dem h hs).trans (e _ (by omega)).symm)), ((c 2 s (by decide)).trans ((xs_lea h hs).trans (e _ (by omega)).symm)), ((c 3 s (by decide)).trans ((xs_got h hs).trans (e _ (by omega)).symm)), ((c 4 s (by decide)).trans ((xs_cip h hs).trans (e _ (by omega)).symm))⟩, ⟨fun s hs => (by rw [vup_in]; by_cases q : s = j; (rw [if_pos q, q, sup_eq]); rw [if_neg q, e _ (by omega)]; exact xs_off h hs), fun s hs => ((c 6 s (by decide)).trans ((xs_set h hs).trans (e _ (by omega)).symm)), fun s hs => ((c 7 s (by decide)).trans ((xs_pre h hs).trans (e _ (by omega)).symm)), fun s hs => ((c 8 s (by decide)).trans ((xs_sb h hs).trans (e _ (by omega)).symm))⟩, ⟨?_, ?_, ?_⟩, ⟨?_, ?_, ?_, ?_, ?_, ?_, ?_, fun q => ?_⟩, ?_⟩
  · rw [d, sDrw_congr (fun t ht => e _ (by omega))]; exact xs_drw h
  · rw [d, e 10 (by omega)]; exact xs_mc h
  · rw [d, e 10 (by omega)]; exact xs_oc h
  · rw [d, e 0 (by omega)]; exact xs_vol h
  · rw [d, e 13 (by omega)]; exact xs_tim h
  · rw [d, e 14 (by omega)]; exact xs_mad h
  · rw [d, e 16 (by omega)]; exact xs_spi h
  · rw [d, e 17 (by omega)]; exact xs_lf h
  · rw [d, e 20 (by omega)]; exact xs_sl h
  · rw [d, e 22 (by omega)]; exact xs_st h
  · rw [e 22 (by omega)] at q
    rw [d, e 23 (by omega), e 21 (by omega)]; exact xs_sp h q
  · rw [e 15 (by omega), sGo_congr 8 (fun t ht => e _ (by omega))]; exact xs_sum h
theorem xs_uset {b : Nat} {v : Sg} {f : Nat → Nat → Int} (h : XS b v f) {j : Nat} (hj : j < 9) (z : Int) : XS b (sup v (1 + j) z) (vup f (b + 1 + 6) j z) := by
  have e : ∀ i, i ≠ 1 + j → sup v (1 + j) z i = v i := fun i hi => sup_ne _ _ hi
  have c : ∀ k t, k ≠ 6 → vup f (b + 1 + 6) j z (b + 1 + k) t = f (b + 1 + k) t := fun k t hk => vup_o (by omega)
  have d : ∀ t, vup f (b + 1 + 6) j z b t = f b t := fun t => vup_o (by omega)
  refine ⟨fun s hs => ⟨((c 0 s (by decide)).trans ((xs_man h hs).trans (e _ (by omega)).symm)), ((c 1 s (by decide)).trans ((xs_dem h hs).trans (e _ (by omega)).symm)), ((c 2 s (by decide)).trans ((xs_lea h hs).trans (e _ (by omega)).symm)), ((c 3 s (by decide)).trans ((xs_got h hs).trans (e _ (by omega)).symm)), ((c 4 s (by decide)).trans ((xs_cip h hs).trans (e _ (by omega)).symm))⟩, ⟨fun s hs => ((c 5 s (by decide)).trans ((xs_off h hs).trans (e _ (by omega)).symm)), fun s hs => (by rw [vup_in]; by_cases q : s = j; (rw [if_pos q, q, sup_eq]); rw [if_neg q, e _ (by omega)]; exact xs_set h hs), fun s hs => ((c 7 s (by decide)).trans ((xs_pre h hs).trans (e _ (by omega)).symm)), fun s hs => ((c 8 s (by decide)).trans ((xs_sb h hs).trans (e _ (by omega)).symm))⟩, ⟨?_, ?_, ?_⟩, ⟨?_, ?_, ?_, ?_, ?_, ?_, ?_, fun q => ?_⟩, ?_⟩
  · rw [d, sDrw_congr (fun t ht => e _ (by omega))]; exact xs_drw h
  · rw [d, e 10 (by omega)]; exact xs_mc h
  · rw [d, e 10 (by omega)]; exact xs_oc h
  · rw [d, e 0 (by omega)]; exact xs_vol h
  · rw [d, e 13 (by omega)]; exact xs_tim h
  · rw [d, e 14 (by omega)]; exact xs_mad h
  · rw [d, e 16 (by omega)]; exact xs_spi h
  · rw [d, e 17 (by omega)]; exact xs_lf h
  · rw [d, e 20 (by omega)]; exact xs_sl h
  · rw [d, e 22 (by omega)]; exact xs_st h
  · rw [e 22 (by omega)] at q
    rw [d, e 23 (by omega), e 21 (by omega)]; exact xs_sp h q
  · rw [e 15 (by omega), sGo_congr 8 (fun t ht => e _ (by omega))]; exact xs_sum h
theorem xs_upre {b : Nat} {v : Sg} {f : Nat → Nat → Int} (h : XS b v f) {j : Nat} (hj : j < 2) (z : Int) : XS b (sup v (11 + j) z) (vup f (b + 1 + 7) j z) := by
  have e : ∀ i, i ≠ 11 + j → sup v (11 + j) z i = v i := fun i hi => sup_ne _ _ hi
  have c : ∀ k t, k ≠ 7 → vup f (b + 1 + 7) j z (b + 1 + k) t = f (b + 1 + k) t := fun k t hk => vup_o (by omega)
  have d : ∀ t, vup f (b + 1 + 7) j z b t = f b t := fun t => vup_o (by omega)
  refine ⟨fun s hs => ⟨((c 0 s (by decide)).trans ((xs_man h hs).trans (e _ (by omega)).symm)), ((c 1 s (by decide)).trans ((xs_dem h hs).trans (e _ (by omega)).symm)), ((c 2 s (by decide)).trans ((xs_lea h hs).trans (e _ (by omega)).symm)), ((c 3 s (by decide)).trans ((xs_got h hs).trans (e _ (by omega)).symm)), ((c 4 s (by decide)).trans ((xs_cip h hs).trans (e _ (by omega)).symm))⟩, ⟨fun s hs => ((c 5 s (by decide)).trans ((xs_off h hs).trans (e _ (by omega)).symm)), fun s hs => ((c 6 s (by decide)).trans ((xs_set h hs).trans (e _ (by omega)).symm)), fun s hs => (by rw [vup_in]; by_cases q : s = j; (rw [if_pos q, q, sup_eq]); rw [if_neg q, e _ (by omega)]; exact xs_pre h hs), fun s hs => ((c 8 s (by decide)).trans ((xs_sb h hs).trans (e _ (by omega)).symm))⟩, ⟨?_, ?_, ?_⟩, ⟨?_, ?_, ?_, ?_, ?_, ?_, ?_, fun q => ?_⟩, ?_⟩
  · rw [d, sDrw_congr (fun t ht => e _ (by omega))]; exact xs_drw h
  · rw [d, e 10 (by omega)]; exact xs_mc h
  · rw [d, e 10 (by omega)]; exact xs_oc h
  · rw [d, e 0 (by omega)]; exact xs_vol h
  · rw [d, e 13 (by omega)]; exact xs_tim h
  · rw [d, e 14 (by omega)]; exact xs_mad h
  · rw [d, e 16 (by omega)]; exact xs_spi h
  · rw [d, e 17 (by omega)]; exact xs_lf h
  · rw [d, e 20 (by omega)]; exact xs_sl h
  · rw [d, e 22 (by omega)]; exact xs_st h
  · rw [e 22 (by omega)] at q
    rw [d, e 23 (by omega), e 21 (by omega)]; exact xs_sp h q
  · rw [e 15 (by omega), sGo_congr 8 (fun t ht => e _ (by omega))]; exact xs_sum h
def xOp (r : Nat) (h : Nat → Nat) (v w : Sg) (M M' : Mem) : Prop := ∃ K : Mem, xRec r h v M K ∧ fz 1 11 26 40 K M' ∧ XS 1 w M'.1
def xPost (r : Nat) (h : Nat → Nat) (v : Sg) (M : Mem) (good : Prop) (ans err : Int) (w : Sg) (r0 : Option AV) (M' : Mem) : Prop := (good → r0 = some (aI ans) ∧ xOp r h v w M M') ∧ (¬ good → r0 = some (aI err) ∧ M' = M)
theorem xPost.y {r : Nat} {h : Nat → Nat} {v : Sg} {M : Mem} {good : Prop} {ans err : Int} {w w2 : Sg} {r0 : Option AV} {K M' : Mem} (g : good) (hr : r0 = some (aI ans)) (h1 : xRec r h v M K) (h2 : fz 1 11 26 40 K M') (h3 : XS 1 w2 M'.1) (h4 : w2 = w) : xPost r h v M good ans err w r0 M' := ⟨fun _ => ⟨hr, K, h1, h2, h4 ▸ h3⟩, fun q => absurd g q⟩
theorem xPost.n {r : Nat} {h : Nat → Nat} {v : Sg} {M : Mem} {good : Prop} {ans err : Int} {w : Sg} {r0 : Option AV} (g : ¬ good) (hr : r0 = some (aI err)) : xPost r h v M good ans err w r0 M := ⟨fun q => absurd q g, fun _ => ⟨hr, rfl⟩⟩
theorem fz_up {a c a2 c2 : Nat} {M0 M : Mem} (h : fz a c a2 c2 M0 M) {i : Nat} (hi : (a ≤ i ∧ i < c) ∨ (a2 ≤ i ∧ i < c2)) (k : Nat) (z : Int) : fz a c a2 c2 M0 (vup M.1 i k z, M.2) :=
  ⟨h.1, fun i' h1 h2 => by funext b; dsimp only; rw [vup_o (by omega), h.2 i' h1 h2]⟩
set_option maxRecDepth 100000 in
set_option maxHeartbeats 400000 in
theorem c_X3_tick {l : Launch} {G : vGG} {M : Mem} {v : Sg} (hLX : LayX M.2) (hX : XS 1 v M.1) (hI : sInv v) {r : Nat} {h : Nat → Nat} (hr : M.1 0 8 = (r : Int)) (hr5 : r ≤ 5) (hh : ∀ k, k < 5 → M.2 21 k = some (h k)) (hB : ∀ k, k < 5 → stB (h k) ∧ 40 ≤ h k ∧ h k ≤ 80) {a : Int} (ha : R32 a) : Co l yX3_tick cX3_tick 2 (some .int) (rmo 5 116) G [aR (some 0), aI a] M (xPost r h v M (1 ≤ a ∧ a ≤ 200) (sTks v a.toNat 0) (-1000002) (sTks v a.toNat)) := by
  refine Co.ofV (plainFor_of_name (by decide)) rfl rfl ?_
  intro x hxl hxR hlk hrt Q hQ
  show vO x Q G cX3_tick RX3 0 [some (aR (some 0)), some (aI a)] [] M
  refine v_iload_n 1 dX3_tick_0 rfl rfl ?_
  refine v_iconst dX3_tick_1 ?_
  refine v_sipush dX3_tick_2 (by decide) ?_
  refine oSv3 (c_X3_isWithin (by omega) (by decide) (by decide)) k0_X3_isWithin ki_X3_isWithin ml_X3_55 (vRo_of hxR (by decide) (by decide)) dX3_tick_5 (Nat.le_of_ble_eq_true rfl) ?_
  refine v_if_ne 14 dX3_tick_8 (by decide) (bP_R _) (fun h8 => ?_) (fun h8 => ?_)
  · skip
    have ga := bP_n0.mp h8
    obtain ⟨s, rfl⟩ : ∃ s : Nat, a = ((s : Nat) : Int) := ⟨(a).toNat, by omega⟩
    refine v_aload_n 0 dX3_tick_14 rfl rfl ?_
    refine oVm0 3 (c_X3_remember hLX hX hI hr hr5 hh hB) k0_X3_remember ki_X3_remember ml_X3_60 (rfl : SH 0 = _) (by decide) (vRo_of hxR (by decide) (by decide)) dX3_tick_15 (Nat.le_of_ble_eq_true rfl) (fun N hN => ?_)
    have hR := hN
    have hLN := hLX.keep hR.2.1
    have hbb := (xh_p (P := fun b => stB b ∧ 40 ≤ b ∧ b ≤ 80) (r := r) hB (min r 4) (by omega)).2
    have hXN : XS 1 v N.1 := hX.keep (fun i h1 h2 => hR.2.2.2.2.2 i (by omega) (by omega))
    refine v_aload_n 0 dX3_tick_18 rfl rfl ?_
    refine v_aload_n 0 dX3_tick_19 rfl rfl ?_
    refine v_getR lk_X3_10 rfl (rfl : SH 0 = _) (ow_0 hLN) dX3_tick_20 ?_
    refine v_iload_n 1 dX3_tick_23 rfl rfl ?_
    refine oVq2 3 (c_X3_letPass stB_1 hLN hXN hI (by omega)) k0_X3_letPass ki_X3_letPass ml_X3_131 (rfl : SH 0 = _) (by decide) (vRo_of hxR (by decide) (by decide)) dX3_tick_24 (Nat.le_of_ble_eq_true rfl) (fun N hN => ?_)
    obtain ⟨hF, hX2⟩ := hN
    have hLN := fz_layX hF hLN
    refine v_pop dX3_tick_27 rfl ?_
    refine v_aload_n 0 dX3_tick_28 rfl rfl ?_
    refine v_getR lk_X3_10 rfl (rfl : SH 0 = _) (ow_0 hLN) dX3_tick_29 ?_
    refine o_getI (u := (sTks v s 0)) lk_X3_135 rfl (st_o stB_1) (xs_vol hX2) dX3_tick_32 ?_
    refine o_iret hQ hlk hrt dX3_tick_35 ?_
    exact xPost.y ga rfl hR (fz_tr (a := 1) (c := 11) (a2 := 26) (c2 := 40) fz_rf hF (fun i h1 h2 => by omega)) hX2 rfl
  · skip
    have ga := bP_0.mp h8
    refine v_ldc (-1000002) kc_X3_59 (by decide) dX3_tick_11 ?_
    refine o_iret hQ hlk hrt dX3_tick_13 ?_
    exact xPost.n ga rfl
set_option maxRecDepth 100000 in
set_option maxHeartbeats 400000 in
theorem c_X3_press {l : Launch} {G : vGG} {M : Mem} {v : Sg} (hLX : LayX M.2) (hX : XS 1 v M.1) (hI : sInv v) {r : Nat} {h : Nat → Nat} (hr : M.1 0 8 = (r : Int)) (hr5 : r ≤ 5) (hh : ∀ k, k < 5 → M.2 21 k = some (h k)) (hB : ∀ k, k < 5 → stB (h k) ∧ 40 ≤ h k ∧ h k ≤ 80) {a k0 on : Int} (ha : R32 a) (hk0 : R32 k0) (ho : R32 on) : Co l yX3_press cX3_press 4 (some .int) (rmo 4 82) G [aR (some 0), aI a, aI k0, aI on] M (xPost r h v M ((0 ≤ a ∧ a ≤ 1) ∧ (0 ≤ k0 ∧ k0 ≤ 23)) (((pc (sPre v a.toNat k0.toNat on (11 + a.toNat)).toNat : Nat) : Int)) (-1000001) (sPre v a.toNat k0.toNat on)) := by
  refine Co.ofV (plainFor_of_name (by decide)) rfl rfl ?_
  intro x hxl hxR hlk hrt Q hQ
  show vO x Q G cX3_press RX3 0 [some (aR (some 0)), some (aI a), some (aI k0), some (aI on)] [] M
  refine v_iload_n 1 dX3_press_0 rfl rfl ?_
  refine oSv1 (c_X3_isManual (by omega)) k0_X3_isManual ki_X3_isManual ml_X3_52 (vRo_of hxR (by decide) (by decide)) dX3_press_1 (Nat.le_of_ble_eq_true rfl) ?_
  refine v_if_eq 14 dX3_press_4 (by decide) (bP_R _) (fun h4 => ?_) (fun h4 => ?_)
  · skip
    have ga := bP_0.mp h4
    refine v_ldc (-1000001) kc_X3_51 (by decide) dX3_press_14 ?_
    refine o_iret hQ hlk hrt dX3_press_16 ?_
    first | exact xPost.n (fun q => ga q.1) rfl | exact xPost.n (fun q => gb q.2) rfl
  · skip
    have ga := bP_n0.mp h4
    obtain ⟨s, rfl⟩ : ∃ s : Nat, a = ((s : Nat) : Int) := ⟨(a).toNat, by omega⟩
    refine v_iload_n 2 dX3_press_7 rfl rfl ?_
    refine oSv1 (c_X3_isKey (by omega)) k0_X3_isKey ki_X3_isKey ml_X3_100 (vRo_of hxR (by decide) (by decide)) dX3_press_8 (Nat.le_of_ble_eq_true rfl) ?_
    refine v_if_ne 17 dX3_press_11 (by decide) (bP_R _) (fun h11 => ?_) (fun h11 => ?_)
    · skip
      have gb := bP_n0.mp h11
      obtain ⟨k, rfl⟩ : ∃ k : Nat, k0 = ((k : Nat) : Int) := ⟨(k0).toNat, by omega⟩
      refine v_aload_n 0 dX3_press_17 rfl rfl ?_
      refine oVm0 3 (c_X3_remember hLX hX hI hr hr5 hh hB) k0_X3_remember ki_X3_remember ml_X3_60 (rfl : SH 0 = _) (by decide) (vRo_of hxR (by decide) (by decide)) dX3_press_18 (Nat.le_of_ble_eq_true rfl) (fun N hN => ?_)
      have hR := hN
      have hLN := hLX.keep hR.2.1
      have hbb := (xh_p (P := fun b => stB b ∧ 40 ≤ b ∧ b ≤ 80) (r := r) hB (min r 4) (by omega)).2
      have hXN : XS 1 v N.1 := hX.keep (fun i h1 h2 => hR.2.2.2.2.2 i (by omega) (by omega))
      refine v_aload_n 0 dX3_press_21 rfl rfl ?_
      refine v_getR lk_X3_10 rfl (rfl : SH 0 = _) (ow_0 hLN) dX3_press_22 ?_
      refine v_getR lk_X3_121 rfl (st_o stB_1) (hLN.1 1 stB_1 7 (by decide)) dX3_press_25 ?_
      refine v_iload_n 1 dX3_press_28 rfl rfl ?_
      refine v_aload_n 0 dX3_press_29 rfl rfl ?_
      refine v_getR lk_X3_10 rfl (rfl : SH 0 = _) (ow_0 hLN) dX3_press_30 ?_
      refine v_getR lk_X3_121 rfl (st_o stB_1) (hLN.1 1 stB_1 7 (by decide)) dX3_press_33 ?_
      refine v_iload_n 1 dX3_press_36 rfl rfl ?_
      refine o_iald (j := s) (u := (v (11 + s))) (st_a7 stB_1) (by omega) (by omega) (xs_pre hXN (by omega)) dX3_press_37 ?_
      refine v_iload_n 2 dX3_press_38 rfl rfl ?_
      refine v_iload_n 3 dX3_press_39 rfl rfl ?_
      have hvb := pre_b hI (show s < 2 by omega)
      have hwb : wth (v (11 + s)).toNat k (decide (on ≠ 0)) < 16777216 := wth_lt _ (by omega) (by omega)
      refine oSv3 (c_X3_with hvb.1 (by omega) (by omega) ho) k0_X3_with ki_X3_with ml_X3_111 (vRo_of hxR (by decide) (by decide)) dX3_press_40 (Nat.le_of_ble_eq_true rfl) ?_
      refine o_iast (j := s) (by omega) (st_a7 stB_1) (by omega) (by omega) dX3_press_43 ?_
      refine v_aload_n 0 dX3_press_44 rfl rfl ?_
      refine v_getR lk_X3_10 rfl (rfl : SH 0 = _) (ow_0 hLN) dX3_press_45 ?_
      refine v_getR lk_X3_121 rfl (st_o stB_1) (hLN.1 1 stB_1 7 (by decide)) dX3_press_48 ?_
      refine v_iload_n 1 dX3_press_51 rfl rfl ?_
      refine o_iald (j := s) (u := ((wth (v (11 + s)).toNat k (decide (on ≠ 0)) : Nat) : Int)) (st_a7 stB_1) (by omega) (by omega) (by dsimp only; exact vup_s _ _ _ _) dX3_press_52 ?_
      refine oSv1 (c_J6_bitCount hwb) k0_J6_bitCount ki_J6_bitCount ml_X3_115 (vRo_of hxR (by decide) (by decide)) dX3_press_53 (Nat.le_of_ble_eq_true rfl) ?_
      refine o_iret hQ hlk hrt dX3_press_56 ?_
      exact xPost.y ⟨ga, gb⟩ (by rw [Int.toNat_natCast, Int.toNat_natCast, sPre, sup_eq, Int.toNat_natCast]) hR (fz_up fz_rf (by omega) _ _) (xs_upre hXN (by omega) _) rfl
    · skip
      have gb := bP_0.mp h11
      refine v_ldc (-1000001) kc_X3_51 (by decide) dX3_press_14 ?_
      refine o_iret hQ hlk hrt dX3_press_16 ?_
      first | exact xPost.n (fun q => ga q.1) rfl | exact xPost.n (fun q => gb q.2) rfl
