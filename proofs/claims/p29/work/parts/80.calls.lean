/-! ===== the class's calls, as the law makes them (by program) ===== -/
theorem Co.imp {l : Launch} {y : MethodName} {cy : ByteArray} {mL : Nat} {ret : Option FieldType} {rm : Room} {G : vGG} {As : List AV} {M : Mem} {P P' : Option AV → Mem → Prop} (h : Co l y cy mL ret rm G As M P) (hP : ∀ r M', P r M' → P' r M') : Co l y cy mL ret rm G As M P' := by
  intro p e ha hc hk s m args below hf happ hp hk'
  obtain ⟨n, o, h1, h2, h3, h4⟩ := h p e ha hc hk s m args below hf happ hp hk'
  refine ⟨n, o, h1, h2, h3, ?_⟩
  obtain ⟨⟨⟨r, sh', n', M', q1, ⟨q2, q3, q4⟩, q5⟩, q6⟩, q7⟩ := h4
  exact ⟨⟨⟨r, sh', n', M', q1, ⟨q2, q3, hP _ _ q4⟩, q5⟩, q6⟩, q7⟩
section QC
variable {l : Launch} {G : vGG} {v : Sg} {r : Nat} {h : Nat → Nat} {ro : Nat → Sg} {ke : Nat → Int} {kr : Nat → Sg} {t : Nat} {L : Nat → Int} {M : Mem}
theorem q_tell (hJ : JX v r h ro ke kr t L M) {a : Int} (ha : R32 a) : Co l yX3_tell cX3_tell 2 (some .int) (rmo 6 137) G [aR (some 0), aI a] M (fun r0 N => r0 = some (aI (aTell v a)) ∧ (JX v r h ro ke kr t L N ∧ xfr M N)) :=
  (c_X3_tell hJ.lay hJ.xs hJ.inv ha).imp (fun r0 N q => ⟨q.1, hJ.fzk q.2 fz_J1, xfr_fz q.2 (by decide)⟩)
theorem q_chest (hJ : JX v r h ro ke kr t L M) {a w : Int} (ha : R32 a) (hwR : R32 w) : Co l yX3_chest cX3_chest 3 (some .int) (rmo 6 137) G [aR (some 0), aI a, aI w] M (fun r0 N => r0 = some (aI (aChest v a w)) ∧ (JX v r h ro ke kr t L N ∧ xfr M N)) :=
  (c_X3_chest hJ.lay hJ.xs hJ.inv ha hwR).imp (fun r0 N q => ⟨q.1, hJ.fzk q.2 fz_J1, xfr_fz q.2 (by decide)⟩)
theorem q_pipe (hJ : JX v r h ro ke kr t L M) {a b w : Int} (ha : R32 a) (hbR : R32 b) (hwR : R32 w) : Co l yX3_pipe cX3_pipe 4 (some .int) (rmo 6 137) G [aR (some 0), aI a, aI b, aI w] M (fun r0 N => r0 = some (aI (aPipe v a b w)) ∧ (JX v r h ro ke kr t L N ∧ xfr M N)) :=
  (c_X3_pipe hJ.lay hJ.xs hJ.inv ha hbR hwR).imp (fun r0 N q => ⟨q.1, hJ.fzk q.2 fz_J1, xfr_fz q.2 (by decide)⟩)
theorem q_reason (hJ : JX v r h ro ke kr t L M) {a b : Int} (ha : R32 a) (hbR : R32 b) : Co l yX3_reason cX3_reason 3 (some .int) (rmo 6 137) G [aR (some 0), aI a, aI b] M (fun r0 N => r0 = some (aI (aReason v a b)) ∧ (JX v r h ro ke kr t L N ∧ xfr M N)) :=
  (c_X3_reason hJ.lay hJ.xs hJ.inv ha hbR).imp (fun r0 N q => ⟨q.1, hJ.fzk q.2 fz_J1, xfr_fz q.2 (by decide)⟩)
theorem q_mistuned (hJ : JX v r h ro ke kr t L M) : Co l yX3_mistuned cX3_mistuned 1 (some .int) (rmo 6 137) G [aR (some 0)] M (fun r0 N => r0 = some (aI (sMist v)) ∧ (JX v r h ro ke kr t L N ∧ xfr M N)) :=
  (c_X3_mistuned hJ.lay hJ.xs hJ.inv ).imp (fun r0 N q => ⟨q.1, hJ.fzk q.2 fz_J1, xfr_fz q.2 (by decide)⟩)
theorem q_search (hJ : JX v r h ro ke kr t L M) {w : Int} (hwR : R32 w) : Co l yX3_search cX3_search 2 (some .int) (rmo 7 160) G [aR (some 0), aI w] M (fun r0 N => r0 = some (aI (aSearch v w)) ∧ (JX v r h ro ke kr t L N ∧ xfr M N)) :=
  (c_X3_search hJ.lay hJ.xs hJ.inv hwR).imp (fun r0 N q => ⟨q.1, hJ.fzk q.2 fz_J2, xfr_fz q.2 (by decide)⟩)
theorem q_lowest (hJ : JX v r h ro ke kr t L M) {a : Int} (ha : R32 a) : Co l yX3_lowest cX3_lowest 2 (some .int) (rmo 5 116) G [aR (some 0), aI a] M (fun r0 N => r0 = some (aI (aLow v a)) ∧ (JX v r h ro ke kr t L N ∧ xfr M N)) :=
  (c_X3_lowest hJ.lay hJ.xs hJ.inv ha).imp (fun r0 N q => ⟨q.1, hJ.fzk q.2 fz_J3, xfr_fz q.2 (by decide)⟩)
theorem q_checksum (hJ : JX v r h ro ke kr t L M) : Co l yX3_checksum cX3_checksum 5 (some .long) (rmo 7 160) G [aR (some 0)] M (fun r0 N => r0 = some (aL (sSum v)) ∧ (JX v r h ro ke kr t L N ∧ xfr M N)) :=
  (c_X3_checksum hJ.lay hJ.xs hJ.inv ).imp (fun r0 N q => ⟨q.1, hJ.fzk q.2 fz_J1, xfr_fz q.2 (by decide)⟩)
theorem q_robbed (hJ : JX v r h ro ke kr t L M) {a : Int} (ha : R32 a) : Co l yX3_robbed cX3_robbed 4 (some .int) (rmo 6 137) G [aR (some 0), aI a] M (fun r0 N => r0 = some (aI (aRob v a)) ∧ (JX v r h ro ke kr t L N ∧ xfr M N)) :=
  (c_X3_robbed hJ.lay hJ.xs hJ.inv ha).imp (fun r0 N q => ⟨q.1, hJ.fzk q.2 fz_J1, xfr_fz q.2 (by decide)⟩)
theorem q_tick (hJ : JX v r h ro ke kr t L M) {a : Int} (ha : R32 a) (g : 1 ≤ a ∧ a ≤ 200) : Co l yX3_tick cX3_tick 2 (some .int) (rmo 5 116) G [aR (some 0), aI a] M (fun r0 N => r0 = some (aI (sTks v a.toNat 0)) ∧ (JX (sTks v a.toNat) (min r 4 + 1) (xh r h) (rr r v ro) ke kr t L N ∧ xfr M N)) :=
  (c_X3_tick hJ.lay hJ.xs hJ.inv hJ.jr hJ.r5 hJ.hh hJ.hB ha).imp (fun r0 N q => ⟨(q.1 g).1, hJ.op (q.1 g).2 (sTks_inv hJ.inv _), xPost_x hJ q⟩)
theorem q_press (hJ : JX v r h ro ke kr t L M) {a k0 on : Int} (ha : R32 a) (hk0 : R32 k0) (ho : R32 on) (g : (0 ≤ a ∧ a ≤ 1) ∧ (0 ≤ k0 ∧ k0 ≤ 23)) : Co l yX3_press cX3_press 4 (some .int) (rmo 4 82) G [aR (some 0), aI a, aI k0, aI on] M (fun r0 N => r0 = some (aI (((pc (sPre v a.toNat k0.toNat on (11 + a.toNat)).toNat : Nat) : Int))) ∧ (JX (sPre v a.toNat k0.toNat on) (min r 4 + 1) (xh r h) (rr r v ro) ke kr t L N ∧ xfr M N)) :=
  (c_X3_press hJ.lay hJ.xs hJ.inv hJ.jr hJ.r5 hJ.hh hJ.hB ha hk0 ho).imp (fun r0 N q => ⟨(q.1 g).1, hJ.op (q.1 g).2 (pre_inv hJ.inv (by omega) (by omega) _), xPost_x hJ q⟩)
theorem q_draw (hJ : JX v r h ro ke kr t L M) {a on : Int} (ha : R32 a) (ho : R32 on) (g : 0 ≤ a ∧ a ≤ 7) : Co l yX3_draw cX3_draw 3 (some .int) (rmo 4 82) G [aR (some 0), aI a, aI on] M (fun r0 N => r0 = some (aI (((pc (sDrw (sDra v a.toNat on)) : Nat) : Int))) ∧ (JX (sDra v a.toNat on) (min r 4 + 1) (xh r h) (rr r v ro) ke kr t L N ∧ xfr M N)) :=
  (c_X3_draw hJ.lay hJ.xs hJ.inv hJ.jr hJ.r5 hJ.hh hJ.hB ha ho).imp (fun r0 N q => ⟨(q.1 g).1, hJ.op (q.1 g).2 (dra_inv hJ.inv (by omega) _), xPost_x hJ q⟩)
theorem q_cipher (hJ : JX v r h ro ke kr t L M) {a k0 on : Int} (ha : R32 a) (hk0 : R32 k0) (ho : R32 on) (g : gCip v a k0 on) : Co l yX3_cipher cX3_cipher 5 (some .int) (rmo 4 82) G [aR (some 0), aI a, aI k0, aI on] M (fun r0 N => r0 = some (aI (((sCi (sCip v a.toNat k0.toNat on) 8 : Nat) : Int))) ∧ (JX (sCip v a.toNat k0.toNat on) (min r 4 + 1) (xh r h) (rr r v ro) ke kr t L N ∧ xfr M N)) :=
  (c_X3_cipher hJ.lay hJ.xs hJ.inv hJ.jr hJ.r5 hJ.hh hJ.hB ha hk0 ho).imp (fun r0 N q => ⟨(q.1 g).1, hJ.op (q.1 g).2 (cip_inv hJ.inv (by have := g.1; unfold gSK at this; omega) (by have := g.1; unfold gSK at this; omega) g.2), xPost_x hJ q⟩)
theorem q_couple (hJ : JX v r h ro ke kr t L M) {a c : Int} (ha : a = 0 ∨ a = 1) (hc : c = 0 ∨ c = 1) (g : True) : Co l yX3_couple cX3_couple 4 (some .int) (rmo 4 82) G [aR (some 0), aI a, aI c] M (fun r0 N => r0 = some (aI (v 10)) ∧ (JX (sCou v a c) (min r 4 + 1) (xh r h) (rr r v ro) ke kr t L N ∧ xfr M N)) :=
  (c_X3_couple hJ.lay hJ.xs hJ.inv hJ.jr hJ.r5 hJ.hh hJ.hB ha hc).imp (fun r0 N q => ⟨(q.1 g).1, hJ.op (q.1 g).2 (cou_inv hJ.inv _ _), xPost_x hJ q⟩)
theorem q_layOut (hJ : JX v r h ro ke kr t L M) {a mb c d : Int} (ha : R32 a) (hmb : R32 mb) (hc : R32 c) (hd0 : R32 d) (g : gLay a mb c d) : Co l yX3_layOut cX3_layOut 7 (some .int) (rmo 4 82) G [aR (some 0), aI a, aI mb, aI c, aI d] M (fun r0 N => r0 = some (aI (v (24 + 5 * a.toNat + 1))) ∧ (JX (sLay v a.toNat mb c d) (min r 4 + 1) (xh r h) (rr r v ro) ke kr t L N ∧ xfr M N)) :=
  (c_X3_layOut hJ.lay hJ.xs hJ.inv hJ.jr hJ.r5 hJ.hh hJ.hB ha hmb hc hd0).imp (fun r0 N q => ⟨(q.1 g).1, hJ.op (q.1 g).2 (lay_inv hJ.inv (by have := g.1; omega) g.2.1 g.2.2.1 g.2.2.2), xPost_x hJ q⟩)
theorem q_set (hJ : JX v r h ro ke kr t L M) {a c : Int} (ha : R32 a) (hc : R32 c) (g : gSet a c) : Co l yX3_set cX3_set 4 (some .int) (rmo 4 82) G [aR (some 0), aI a, aI c] M (fun r0 N => r0 = some (aI (v (1 + a.toNat))) ∧ (JX (sup v (1 + a.toNat) c) (min r 4 + 1) (xh r h) (rr r v ro) ke kr t L N ∧ xfr M N)) :=
  (c_X3_set hJ.lay hJ.xs hJ.inv hJ.jr hJ.r5 hJ.hh hJ.hB hJ.lo hJ.hi ha hc).imp (fun r0 N q => ⟨(q.1 g).1, hJ.op (q.1 g).2 (set_inv hJ.inv (by have := g.1; omega) g.2), xPost_x hJ q⟩)
theorem n_tick (hJ : JX v r h ro ke kr t L M) {a : Int} (ha : R32 a) (g : ¬ (1 ≤ a ∧ a ≤ 200)) : Cv l yX3_tick cX3_tick 2 (some .int) (rmo 5 116) G [aR (some 0), aI a] M (some (aI (-1000002))) M :=
  (c_X3_tick hJ.lay hJ.xs hJ.inv hJ.jr hJ.r5 hJ.hh hJ.hB ha).imp (fun r0 N q => q.2 g)
theorem n_press (hJ : JX v r h ro ke kr t L M) {a k0 on : Int} (ha : R32 a) (hk0 : R32 k0) (ho : R32 on) (g : ¬ ((0 ≤ a ∧ a ≤ 1) ∧ (0 ≤ k0 ∧ k0 ≤ 23))) : Cv l yX3_press cX3_press 4 (some .int) (rmo 4 82) G [aR (some 0), aI a, aI k0, aI on] M (some (aI (-1000001))) M :=
  (c_X3_press hJ.lay hJ.xs hJ.inv hJ.jr hJ.r5 hJ.hh hJ.hB ha hk0 ho).imp (fun r0 N q => q.2 g)
theorem n_draw (hJ : JX v r h ro ke kr t L M) {a on : Int} (ha : R32 a) (ho : R32 on) (g : ¬ (0 ≤ a ∧ a ≤ 7)) : Cv l yX3_draw cX3_draw 3 (some .int) (rmo 4 82) G [aR (some 0), aI a, aI on] M (some (aI (-1000001))) M :=
  (c_X3_draw hJ.lay hJ.xs hJ.inv hJ.jr hJ.r5 hJ.hh hJ.hB ha ho).imp (fun r0 N q => q.2 g)
theorem n_cipher (hJ : JX v r h ro ke kr t L M) {a k0 on : Int} (ha : R32 a) (hk0 : R32 k0) (ho : R32 on) (g : ¬ gCip v a k0 on) : Cv l yX3_cipher cX3_cipher 5 (some .int) (rmo 4 82) G [aR (some 0), aI a, aI k0, aI on] M (some (aI (eSK a k0 (-1000004)))) M :=
  (c_X3_cipher hJ.lay hJ.xs hJ.inv hJ.jr hJ.r5 hJ.hh hJ.hB ha hk0 ho).imp (fun r0 N q => q.2 g)
theorem n_layOut (hJ : JX v r h ro ke kr t L M) {a mb c d : Int} (ha : R32 a) (hmb : R32 mb) (hc : R32 c) (hd0 : R32 d) (g : ¬ gLay a mb c d) : Cv l yX3_layOut cX3_layOut 7 (some .int) (rmo 4 82) G [aR (some 0), aI a, aI mb, aI c, aI d] M (some (aI (eSt a (-1000002)))) M :=
  (c_X3_layOut hJ.lay hJ.xs hJ.inv hJ.jr hJ.r5 hJ.hh hJ.hB ha hmb hc hd0).imp (fun r0 N q => q.2 g)
theorem n_set (hJ : JX v r h ro ke kr t L M) {a c : Int} (ha : R32 a) (hc : R32 c) (g : ¬ gSet a c) : Cv l yX3_set cX3_set 4 (some .int) (rmo 4 82) G [aR (some 0), aI a, aI c] M (some (aI (eSet a))) M :=
  (c_X3_set hJ.lay hJ.xs hJ.inv hJ.jr hJ.r5 hJ.hh hJ.hB hJ.lo hJ.hi ha hc).imp (fun r0 N q => q.2 g)
theorem n_tune (hJ : JX v r h ro ke kr t L M) {a k0 : Int} (ha : R32 a) (hk0 : R32 k0) (g : ¬ gTun v a k0) : Co l yX3_tune cX3_tune 5 (some .int) (rmo 6 137) G [aR (some 0), aI a, aI k0] M (fun r0 N => r0 = some (aI (eSK a k0 (-1000003))) ∧ (JX v r h ro ke kr t L N ∧ xfr M N)) :=
  (c_X3_tune hJ.lay hJ.xs hJ.inv hJ.jr hJ.r5 hJ.hh hJ.hB ha hk0).imp (fun r0 N q => by
    rcases q with q | q
    · exact absurd q.1 g
    · exact ⟨q.2.1, hJ.fzk q.2.2 fz_J1, xfr_fz q.2.2 (by decide)⟩)
theorem q_stop (hJ : JX v r h ro ke kr t L M) {a w : Int} (ha : R32 a) (hwR : R32 w) : Cv l yX3_stop cX3_stop 3 (some .int) (rmo 2 42) G [aR (some 0), aI a, aI w] M (some (aI (aStop v a w))) M := c_X3_stop hJ.lay hJ.xs hJ.inv ha hwR
theorem q_strokes (hJ : JX v r h ro ke kr t L M) {a : Int} (ha : R32 a) : Cv l yX3_strokes cX3_strokes 2 (some .int) (rmo 1 22) G [aR (some 0), aI a] M (some (aI (aStrokes v a))) M := c_X3_strokes hJ.lay hJ.xs hJ.inv ha
theorem q_undo {p : Nat} (hJ : JX v (p + 1) h ro ke kr t L M) : Co l yX3_undo cX3_undo 1 (some .int) (rmo 3 60) G [aR (some 0)] M (fun r0 N => r0 = some (aI (p : Int)) ∧ (JX (ro p) p h ro ke kr t L N ∧ xfr M N)) :=
  (c_X3_undo hJ.lay hJ.jr hJ.r5 hJ.hh hJ.hB (undo_u hJ)).imp (fun r0 N q => ⟨(q.2 p rfl).1, hJ.undo (q.2 p rfl).2 (hJ.2.2.1.2.2.2.2 p (by omega)).2, undo_x q⟩)
theorem n_undo (hJ : JX v 0 h ro ke kr t L M) : Cv l yX3_undo cX3_undo 1 (some .int) (rmo 3 60) G [aR (some 0)] M (some (aI (-1000003))) M :=
  (c_X3_undo hJ.lay hJ.jr hJ.r5 hJ.hh hJ.hB (u := v) (fun p q => absurd q (by omega))).imp (fun r0 N q => q.1 rfl)
theorem q_save (hJ : JX v r h ro ke kr t L M) {a : Int} (ha : R32 a) (g : 0 ≤ a ∧ a ≤ 1) : Co l yX3_save cX3_save 2 (some .int) (rmo 3 60) G [aR (some 0), aI a] M (fun r0 N => r0 = some (aI (v 13)) ∧ (JX v r h ro (fun i => if i = a.toNat then 1 else ke i) (fun i => if i = a.toNat then v else kr i) t L N ∧ xfr M N)) :=
  (c_X3_save hJ.lay hJ.xs hJ.inv ha).imp (fun r0 N q => ⟨(q.1 g).1, hJ.save (by omega) (q.1 g).2, save_x q⟩)
theorem n_save (hJ : JX v r h ro ke kr t L M) {a : Int} (ha : R32 a) (g : ¬ (0 ≤ a ∧ a ≤ 1)) : Cv l yX3_save cX3_save 2 (some .int) (rmo 3 60) G [aR (some 0), aI a] M (some (aI (-1000001))) M :=
  (c_X3_save hJ.lay hJ.xs hJ.inv ha).imp (fun r0 N q => q.2 g)
theorem q_restore (hJ : JX v r h ro ke kr t L M) {a : Int} (ha : R32 a) (g : 0 ≤ a ∧ a ≤ 1) (hk : ¬ ke a.toNat = 0) : Co l yX3_restore cX3_restore 2 (some .int) (rmo 4 82) G [aR (some 0), aI a] M (fun r0 N => r0 = some (aI (kr a.toNat 13)) ∧ (JX (kr a.toNat) (min r 4 + 1) (xh r h) (rr r v ro) ke kr t L N ∧ xfr M N)) :=
  (c_X3_restore hJ.lay hJ.xs hJ.inv hJ.jr hJ.r5 hJ.hh hJ.hB hJ.k ha (rest_u hJ)).imp (fun r0 N q => by
    have hk1 := hJ.2.2.2.1 a.toNat (by omega)
    have g2 : (0 ≤ a ∧ a ≤ 1) ∧ ¬ M.1 23 a.toNat = 0 := ⟨g, by rw [hk1.1]; exact hk⟩
    exact ⟨(q.1 g2).1, hJ.op (q.1 g2).2 (hk1.2.2 hk).2, rest_x hJ q⟩)
theorem n_restore (hJ : JX v r h ro ke kr t L M) {a : Int} (ha : R32 a) (g : ¬ ((0 ≤ a ∧ a ≤ 1) ∧ ¬ ke a.toNat = 0)) : Cv l yX3_restore cX3_restore 2 (some .int) (rmo 4 82) G [aR (some 0), aI a] M (some (aI (if 0 ≤ a ∧ a ≤ 1 then -1000003 else -1000001))) M :=
  (c_X3_restore hJ.lay hJ.xs hJ.inv hJ.jr hJ.r5 hJ.hh hJ.hB hJ.k ha (rest_u hJ)).imp (fun r0 N q => q.2 (fun g2 => g ⟨g2.1, by
    have hk1 := hJ.2.2.2.1 a.toNat (by omega)
    rw [← hk1.1]; exact g2.2⟩))
theorem n_append (hJ : JX v r h ro ke kr t L M) {z : Int} (hz : R32 z) (g : ¬ (0 ≤ z ∧ z ≤ 127)) : Cv l yX3_append cX3_append 2 (some .int) (rmo 2 43) G [aR (some 0), aI z] M (some (aI (-1000002))) M :=
  (c_X3_append hJ.lay hJ.tx1 hJ.txB.1 hz).imp (fun r0 N q => ⟨by rw [q.1, aApp, if_neg g], by rw [q.2, if_neg (fun z => g z.1)]⟩)
theorem q_play0 (hJ : JX v r h ro ke kr 0 L M) : Co l yX3_play cX3_play 2 (some .int) (rmo 6 136) G [aR (some 0)] M (fun r0 N => r0 = some (aI 0) ∧ (JX v (min r 4 + 1) (xh r h) (rr r v ro) ke kr 0 L N ∧ xfr M N)) :=
  (c_X3_play hJ.lay hJ.xs hJ.inv hJ.jr hJ.r5 hJ.hh hJ.hB hJ.tx2 hJ.tx1 hJ.txB).imp (fun r0 N q => by
    have e1 : (pT L 0 80 0).1 = true := rfl
    have e2 : pPl L 0 80 0 v = (v, 0) := rfl
    have hx := xPlay_x hJ q
    rcases q with ⟨g, e, N1, N2, ⟨_, _, _, _, _, x1⟩, x2, ⟨_, x3⟩, x4⟩ | q
    · rw [e2] at e x4
      exact ⟨e, hJ.play x1 x2 x3 x4 hJ.inv, hx⟩
    · exact absurd e1 q.1)
end QC
