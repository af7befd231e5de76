/-! THE CLAIM OUT OF ONE WALK OF THE LAW'S BODY. Your part is whole_start (and what it stands on); all else here is the same for every law, but numbers. -/
def R_law : String := "OrganWindLaw"
def lw_P (b : Addr) (xs : List Int32) (args : Array Value) (s : State) : Prop := args = #[.ref b] ∧ s.IntsAt b xs ∧ xs.length ≤ 260 ∧ (Jvm.Cond.and given_1 narrow_1).before args s = true
def lw_Q (_ : Array Value) (s : State) (o : Outcome) (t : State) : Prop := o = .returned (some (.int 1)) ∧ Framed s o t [] 600000 7302250
def lw_Z (below : List Frame) (a : Array Value) (s : State) : State → Prop := fun t => ∃ o, t.status = .running ∧ Ended t below o ∧ lw_Q a s o t
/-- the law's own end, with 1 on the stack, nothing written that was there before, its room as the claim has it -/
theorem lw_ret {p : Program} {l : Launch} {e : Env} {s : State} {m : MethodId} {below : List Frame} {meth : Method} {c : Code} {b : Nat} (hx : p.tables.exec = Jvm.exec) (hb : c.code = code) (hr : meth.sig.returnType = ret) (hlocks : meth.locks = false) {pc : Nat} {H : Heap} {ls : Array Slot} (hdg : decode code pc = .ok (.ireturn, 1)) : W p l e room_1 s m #[Value.ref b] below meth c H [] 600000 7302250 (lw_Z below #[Value.ref b] s) (F0 m pc ls [.int 1]) := by
  intro T hT X
  obtain ⟨fs, hret, hrun, hended, hW, hframe⟩ := X.leave (v := some (.int 1)) (hlocks := hlocks) (fun h => by rw [hr] at h; cases h)
  have hmeth' : T.vm.method? m = some meth := X.method'
  refine ⟨T.setFrames fs, ?_, .returned (some (.int 1)), hrun, hended, rfl, ⟨_, rfl⟩, hW, hframe⟩
  jvm_step X.here [X.here.top, hx, hb, hdg, hmeth', hr, ret, narrow_b1]
  (try refine ⟨rfl, ?_⟩); (try refine ⟨rfl, ?_⟩)
  first | (intro acts; rw [hret _ acts rfl rfl rfl]) | rw [hret _ _ rfl rfl rfl]
  exact Steps.refl _
/-- what holds at the law's entry: the machine, the code, the tables' words (any of lw_tbl by 'hts w (by decide +kernel)'), the script of L ints xs at the cell b, what the Statement gives of the start (any of its parts by flat_of_before) -/
def lw_At (p : Program) (s : State) (m : MethodId) (meth : Method) (c : Code) (b L : Nat) (xs : Nat → Int32) : Prop :=
  p.tables.exec = Jvm.exec ∧ c.code = code ∧ meth.sig.returnType = ret ∧ c.maxLocals = 10 ∧ s.vm.findClass R_law = some m.cls ∧ (∀ w ∈ lw_tbl, w.before #[Value.ref b] s = true) ∧ va_X b L xs s s.heap ∧ b < s.heap.size ∧ meth.locks = false ∧ (Jvm.Cond.and given_1 narrow_1).before #[Value.ref b] s = true
set_option maxRecDepth 100000 in
set_option maxHeartbeats 4000000 in
theorem whole_start {p : Program} {e : Env} {s : State} {m : MethodId} {below : List Frame} {meth : Method} {c : Code} (l : Launch) (hflags : l.flags = flags0) {b L : Nat} {xs : Nat → Int32} (hL : L ≤ 260) (C0 : lw_At p s m meth c b L xs) : W p l e room_1 s m #[Value.ref b] below meth c s.heap [] 0 0 (lw_Z below #[Value.ref b] s) (entryFrame m ([Value.ref b] : List Value).toArray 10) := by
  obtain ⟨hx, hb, hr, hml, hown, hts, hX, hbl, hlocks, hgv⟩ := id C0
  have hA : ∀ a : Nat, a < s.heap.size → ¬ (fun q : Nat => s.heap.size ≤ q) a := fun a h => Nat.not_le.mpr h
  have hs := flat_of_before _ hgv
  obtain ⟨D, E, hK⟩ := st_K hts
  obtain ⟨t0, e0, T0⟩ := st_eval (nm := "FIRST_SETTING") (z := tFs) (hs (Cond.arrayOf (.static "OrganWind" "FIRST_SETTING" "[I") .int) (by decide +kernel)) (hs (Cond.eq (.length (.static "OrganWind" "FIRST_SETTING" "[I")) (.int 9)) (by decide +kernel)) (hs (Cond.eq (.elem (.static "OrganWind" "FIRST_SETTING" "[I") (.int 0)) (.int 80)) (by decide +kernel)) (hs (Cond.eq (.elem (.static "OrganWind" "FIRST_SETTING" "[I") (.int 1)) (.int 10)) (by decide +kernel)) (hs (Cond.eq (.elem (.static "OrganWind" "FIRST_SETTING" "[I") (.int 2)) (.int 10)) (by decide +kernel)) (hs (Cond.eq (.elem (.static "OrganWind" "FIRST_SETTING" "[I") (.int 3)) (.int 500)) (by decide +kernel)) (hs (Cond.eq (.elem (.static "OrganWind" "FIRST_SETTING" "[I") (.int 4)) (.int 6000)) (by decide +kernel)) (hs (Cond.eq (.elem (.static "OrganWind" "FIRST_SETTING" "[I") (.int 5)) (.int 4000)) (by decide +kernel)) (hs (Cond.eq (.elem (.static "OrganWind" "FIRST_SETTING" "[I") (.int 6)) (.int 120)) (by decide +kernel)) (hs (Cond.eq (.elem (.static "OrganWind" "FIRST_SETTING" "[I") (.int 7)) (.int 4)) (by decide +kernel)) (hs (Cond.eq (.elem (.static "OrganWind" "FIRST_SETTING" "[I") (.int 8)) (.int 8)) (by decide +kernel)) hA
  obtain ⟨t1, e1, T1⟩ := st_eval (nm := "LEAST_SETTING") (z := tLo) (hs (Cond.arrayOf (.static "OrganWind" "LEAST_SETTING" "[I") .int) (by decide +kernel)) (hs (Cond.eq (.length (.static "OrganWind" "LEAST_SETTING" "[I")) (.int 9)) (by decide +kernel)) (hs (Cond.eq (.elem (.static "OrganWind" "LEAST_SETTING" "[I") (.int 0)) (.int 20)) (by decide +kernel)) (hs (Cond.eq (.elem (.static "OrganWind" "LEAST_SETTING" "[I") (.int 1)) (.int 0)) (by decide +kernel)) (hs (Cond.eq (.elem (.static "OrganWind" "LEAST_SETTING" "[I") (.int 2)) (.int 0)) (by decide +kernel)) (hs (Cond.eq (.elem (.static "OrganWind" "LEAST_SETTING" "[I") (.int 3)) (.int 100)) (by decide +kernel)) (hs (Cond.eq (.elem (.static "OrganWind" "LEAST_SETTING" "[I") (.int 4)) (.int 1000)) (by decide +kernel)) (hs (Cond.eq (.elem (.static "OrganWind" "LEAST_SETTING" "[I") (.int 5)) (.int 0)) (by decide +kernel)) (hs (Cond.eq (.elem (.static "OrganWind" "LEAST_SETTING" "[I") (.int 6)) (.int 10)) (by decide +kernel)) (hs (Cond.eq (.elem (.static "OrganWind" "LEAST_SETTING" "[I") (.int 7)) (.int 1)) (by decide +kernel)) (hs (Cond.eq (.elem (.static "OrganWind" "LEAST_SETTING" "[I") (.int 8)) (.int 0)) (by decide +kernel)) hA
  obtain ⟨t2, e2, T2⟩ := st_eval (nm := "MOST_SETTING") (z := tHi) (hs (Cond.arrayOf (.static "OrganWind" "MOST_SETTING" "[I") .int) (by decide +kernel)) (hs (Cond.eq (.length (.static "OrganWind" "MOST_SETTING" "[I")) (.int 9)) (by decide +kernel)) (hs (Cond.eq (.elem (.static "OrganWind" "MOST_SETTING" "[I") (.int 0)) (.int 200)) (by decide +kernel)) (hs (Cond.eq (.elem (.static "OrganWind" "MOST_SETTING" "[I") (.int 1)) (.int 100)) (by decide +kernel)) (hs (Cond.eq (.elem (.static "OrganWind" "MOST_SETTING" "[I") (.int 2)) (.int 100)) (by decide +kernel)) (hs (Cond.eq (.elem (.static "OrganWind" "MOST_SETTING" "[I") (.int 3)) (.int 2000)) (by decide +kernel)) (hs (Cond.eq (.elem (.static "OrganWind" "MOST_SETTING" "[I") (.int 4)) (.int 20000)) (by decide +kernel)) (hs (Cond.eq (.elem (.static "OrganWind" "MOST_SETTING" "[I") (.int 5)) (.int 20000)) (by decide +kernel)) (hs (Cond.eq (.elem (.static "OrganWind" "MOST_SETTING" "[I") (.int 6)) (.int 500)) (by decide +kernel)) (hs (Cond.eq (.elem (.static "OrganWind" "MOST_SETTING" "[I") (.int 7)) (.int 8)) (by decide +kernel)) (hs (Cond.eq (.elem (.static "OrganWind" "MOST_SETTING" "[I") (.int 8)) (.int 32)) (by decide +kernel)) hA
  obtain ⟨G, hG⟩ : ∃ G : vGG, G = (D, E, s.heap.size, fun i => if i = 1000 then t0 else if i = 1001 then t1 else if i = 1002 then t2 else b) := ⟨_, rfl⟩
  have g1 : G.2.2.1 = s.heap.size := by rw [hG]
  have v0 : vad G 1000 = t0 := by rw [hG]; rfl
  have v1 : vad G 1001 = t1 := by rw [hG]; rfl
  have v2 : vad G 1002 = t2 := by rw [hG]; rfl
  have v3 : G.2.2.2 1003 = b := by rw [hG]; rfl
  have hnew : ∀ a : Nat, a < s.heap.size → ¬ vnew G a := fun a h => by unfold vnew; rw [g1]; exact Nat.not_le.mpr h
  have hKF : vKF G s := by rw [hG]; exact hK _ _
  have hSZ : vSZ G s s.heap := by
    have hi := hts _ (tbl_of lI_3)
    exact ⟨by rw [v0]; exact va_Zref (hts _ tbl_Fs) hi e0 hnew, by rw [v1]; exact va_Zref (hts _ tbl_Lo) hi e1 hnew, by rw [v2]; exact va_Zref (hts _ tbl_Hi) hi e2 hnew⟩
  have hR : vRel G s (shU 0) 0 Ms s.heap := by
    refine ⟨by rw [g1]; rfl, by decide, fun i hi hn => ?_, fun i _ hi => ?_, fun i y hy => ?_⟩
    · rw [g1]
      have h3 : i = 1000 ∨ i = 1001 ∨ i = 1002 := by
        by_cases q : i < 1003
        · omega
        · exact absurd (shU_none (by omega)) hn
      rcases h3 with rfl | rfl | rfl
      · rw [v0]; obtain ⟨cell, c1, -⟩ := T0; exact (Array.getElem?_eq_some_iff.mp c1).1
      · rw [v1]; obtain ⟨cell, c1, -⟩ := T1; exact (Array.getElem?_eq_some_iff.mp c1).1
      · rw [v2]; obtain ⟨cell, c1, -⟩ := T2; exact (Array.getElem?_eq_some_iff.mp c1).1
    · unfold shU
      rw [if_neg (by omega)]
    · have h3 : (i = 1000 ∨ i = 1001 ∨ i = 1002) ∧ y = .inr (0, 9) := shU_0 hy
      obtain ⟨h3, rfl⟩ := h3
      refine ⟨fun h => by omega, fun _ => ⟨rfl, ?_⟩⟩
      rcases h3 with rfl | rfl | rfl
      · rw [v0]; obtain ⟨cell, c1, c2, c3, c4, c5, c6, -⟩ := T0; exact ⟨cell, c1, c2, c3, ⟨c4, by rw [c5]; rfl⟩, c6⟩
      · rw [v1]; obtain ⟨cell, c1, c2, c3, c4, c5, c6, -⟩ := T1; exact ⟨cell, c1, c2, c3, ⟨c4, by rw [c5]; rfl⟩, c6⟩
      · rw [v2]; obtain ⟨cell, c1, c2, c3, c4, c5, c6, -⟩ := T2; exact ⟨cell, c1, c2, c3, ⟨c4, by rw [c5]; rfl⟩, c6⟩
  obtain ⟨x, hxe⟩ : ∃ x : vXX, x = (p, l, e, room_1, s, m, #[Value.ref b], below, meth, c) := ⟨_, rfl⟩
  have hC : vCX x G cL_law RL 10 := by
    rw [hxe]
    exact ⟨hx, hb, hml, hown, fun w hw => hts w (tbl_of hw), hKF, hSZ, by rw [g1]; exact Nat.le_refl _⟩
  have hlw : lwC x G L xs := by
    rw [hxe]
    refine ⟨rfl, ?_, ?_, ?_, hL⟩
    · rw [v3]; exact hX
    · rw [v3]; exact hbl
    · rw [v3]; exact hnew b hbl
  have hE : ∀ (ls : List (Option AV)) (N : Mem), ls.length = 10 → V x (lw_Z below #[Value.ref b] s) G cL_law RL SH 114 114 3014 441 ls [aI 1] N := fun ls N _ => by
    subst hxe
    intro C H locs la hR2 hS hL2
    refine va_forget (fun q hq => ?_) (W.widen (k := 600000) (n := 7302250) (by decide) (by decide) ?_)
    · have := hS.2.2 q hq
      unfold vnew at this
      rw [g1] at this
      exact this
    · exact lw_ret hx hb hr hlocks dL_law_441
  have key : vU x (lw_Z below #[Value.ref b] s) G cL_law RL 0 0 0 0 [some (aR (some 1003)), none, none, none, none, none, none, none, none, none] [] Ms := start_law hlw (by rw [hxe]) hE
  subst hxe
  rw [lg_entry_eq]
  have hl := lv_entry ([Value.ref b]) (n := 10) (Nat.le_of_ble_eq_true rfl)
  refine key hC s.heap [] _ hR va_S.rf ?_
  rw [show vprs G 0 [some (aR (some 1003)), none, none, none, none, none, none, none, none, none] = [(0, Value.ref b)] by rw [← v3]; rfl]
  exact hl
