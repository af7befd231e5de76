/-! ===== the start: the two new objects agree (by hand) ===== -/
theorem LayX.low {r r2 : Nat → Nat → Option Nat} (h : LayX r) (e : ∀ i, i < 110 → r2 i = r i) : LayX r2 := by
  obtain ⟨h1, h2, h3, h4, h5, h6⟩ := h
  refine ⟨fun b hb k hk => ?_, fun w hw k hk => ?_, ?_, ?_, ?_, ?_⟩
  · rw [e b (by have := stB_lt hb; omega)]; exact h1 b hb k hk
  · rw [e w (by have := wiB_lt hw; omega)]; exact h2 w hw k hk
  · rw [e 24 (by decide)]; exact h3
  · rw [e 0 (by decide)]; exact h4
  · rw [e 22 (by decide)]; exact h5
  · rw [e 22 (by decide)]; exact h6
theorem start_JR {M0 N N2 : Mem} (hC : XC 110 8 5 2 M0 N) (hI : MI sg0 (vz N 110) N2) (hlo : ∀ k, k < 9 → M0.1 1001 k = tLo k) (hhi : ∀ k, k < 9 → M0.1 1002 k = tHi k) : JR N2 := by
  have hL := hC.lay
  obtain ⟨a1, a2, a3, a4, a5, a6, a7, a8, a9, a10⟩ := hC
  obtain ⟨m1, m2, m3, m4⟩ := hI
  have e1 : ∀ i, i < 110 → N2.1 i = N.1 i := fun i hi => by rw [(m1 i (by omega)).1, vz_1 (by omega)]
  have e2 : ∀ i, i < 110 → N2.2 i = N.2 i := fun i hi => by rw [(m1 i (by omega)).2, vz_2 (by omega)]
  have e3 : ∀ i, 1000 ≤ i → N2.1 i = M0.1 i := fun i hi => by rw [(m1 i (by omega)).1, vz_1 (by omega)]; exact (a1 i (by omega)).1
  refine ⟨sg0, 0, fun k => 40 + 10 * k, fun _ => sg0, fun _ => 0, fun _ => sg0, 0, N2.1 116, ?_, ?_⟩
  · refine ⟨hL.low e2, ⟨(a4 (by decide)).keep (fun i p q => e1 i (by omega)), sg0_inv⟩, ⟨⟨by rw [e1 0 (by decide), a2]; rfl, by decide⟩, fun k hk => by rw [e2 21 (by decide)]; exact (a9 k hk).2, fun k hk => ⟨by dsimp only; unfold stB; omega, by dsimp only; omega, by dsimp only; omega⟩, fun j k _ _ q => by dsimp only at q; omega, fun i hi => absurd hi (by omega)⟩, fun s hs => ⟨by rw [e1 23 (by decide), a7 (by decide)]; rfl, .inl rfl, fun q => absurd rfl q⟩, ⟨by rw [e1 24 (by decide), (a6 (by decide)).2]; rfl, fun k hk => absurd hk (by omega), ⟨by decide, fun k hk => absurd hk (by omega)⟩⟩, fun k hk => ⟨by rw [e3 1001 (by decide)]; exact hlo k hk, by rw [e3 1002 (by decide)]; exact hhi k hk⟩⟩
  · have w : ∀ i, 110 ≤ i → i < 127 → i ≠ 111 → i ≠ 117 → i ≠ 118 → i ≠ 119 → N2.1 i = fun _ => 0 := fun i p q r1 r2 r3 r4 => by
      rw [m2 i p q r1]
      unfold W4
      rw [if_neg r2, if_neg r3, if_neg r4]
    refine ⟨⟨⟨m3 0 (by decide), m3 1 (by decide), m3 2 (by decide), m3 3 (by decide), m3 4 (by decide), m3 5 (by decide)⟩, ⟨m3 6 (by decide), m3 7 (by decide), m3 8 (by decide), m3 9 (by decide), m3 10 (by decide)⟩, m3 11 (by decide), m3 12 (by decide), m3 13 (by decide), m3 14 (by decide), m3 15 (by decide)⟩, ⟨by rw [w 110 (by decide) (by decide) (by decide) (by decide) (by decide) (by decide)]; rfl, by rw [w 110 (by decide) (by decide) (by decide) (by decide) (by decide) (by decide)]; rfl⟩, fun k hk => ⟨by rw [m2 117 (by decide) (by decide) (by decide)]; exact w9_lo k hk, by rw [m2 118 (by decide) (by decide) (by decide)]; exact w9_hi k hk⟩, m4, fun i hi => absurd hi (by omega), fun s hs => ⟨by rw [w 115 (by decide) (by decide) (by decide) (by decide) (by decide) (by decide)], fun q => absurd rfl q⟩, rfl⟩
/-- the memory at the start: the three static rows -/
def Ms : Mem := (fun i k => if i = 1000 then tFs k else if i = 1001 then tLo k else if i = 1002 then tHi k else 0, fun _ _ => none)
theorem tbl_of {w : Cond} (h : w ∈ vGT) : w ∈ lw_tbl := (List.mem_filter.mp h).1
theorem tbl_Fs : Cond.laysStatic "OrganWind" "FIRST_SETTING" "[I" ∈ lw_tbl := List.mem_of_getElem? (i := 79) (by decide +kernel)
theorem tbl_Lo : Cond.laysStatic "OrganWind" "LEAST_SETTING" "[I" ∈ lw_tbl := List.mem_of_getElem? (i := 304) (by decide +kernel)
theorem tbl_Hi : Cond.laysStatic "OrganWind" "MOST_SETTING" "[I" ∈ lw_tbl := List.mem_of_getElem? (i := 306) (by decide +kernel)
theorem tbl_AO : Cond.arrayOver (.object RX0) ∈ lw_tbl := List.mem_of_getElem? (i := 167) (by decide +kernel)
theorem st_arr {args : Array Value} {s : State} {ty : FieldType} (h : (Cond.arrayClass ty).before args s = true) : ∃ cA : ClassId, ArrOfT s cA ty ∧ s.vm.findClass ("[" ++ ty.toString) = some cA := by
  obtain ⟨cA, kA, comp, f1, f2, f3⟩ := Cond.arrayClass_spec h
  exact ⟨cA, fun n z => ⟨fun k h => (by cases h), kA, f2, comp, f3⟩, f1⟩
theorem st_arrO {args : Array Value} {s : State} {C : String} (h : (Cond.arrayOver (.object C)).before args s = true) : ∃ cA : ClassId, ArrOfT s cA (.object C) ∧ va_RA s cA (.object C) := by
  obtain ⟨comp, cA, kA, g1, g2, g3, g4, g5⟩ := Cond.arrayOver_spec h
  exact ⟨cA, fun n z => ⟨fun k h => (by cases h), kA, g3, comp, g4⟩, kA, comp, g3, g4, g1, g5⟩
theorem st_K {args : Array Value} {s : State} (hts : ∀ w ∈ lw_tbl, w.before args s = true) : ∃ (D : va_G) (E : Nat → ClassId), ∀ (n0 : Nat) (f : Nat → Nat), vKF (D, E, n0, f) s := by
  obtain ⟨c0, i0, k0⟩ := u_known (C := RX0) (T := TX0) (N := 20) (n := 20) hts (fun w h => tbl_of (vcls0 w h)) (hts _ (tbl_of li_0))
  obtain ⟨c1, i1, k1⟩ := u_known (C := RX1) (T := TX1) (N := 7) (n := 7) hts (fun w h => tbl_of (vcls1 w h)) (hts _ (tbl_of li_1))
  obtain ⟨c2, i2, k2⟩ := u_known (C := RX2) (T := TX2) (N := 6) (n := 6) hts (fun w h => tbl_of (vcls2 w h)) (hts _ (tbl_of li_2))
  obtain ⟨c3, i3, k3⟩ := u_known (C := RX3) (T := TX3) (N := 9) (n := 9) hts (fun w h => tbl_of (vcls3 w h)) (hts _ (tbl_of li_3))
  obtain ⟨c4, i4, k4⟩ := u_known (C := RX4) (T := TX4) (N := 22) (n := 22) hts (fun w h => tbl_of (vcls4 w h)) (hts _ (tbl_of li_4))
  obtain ⟨q0, a0, b0⟩ := st_arr (hts _ (tbl_of la_I))
  obtain ⟨q1, a1, b1⟩ := st_arr (hts _ (tbl_of la_Z))
  obtain ⟨q2, a2, b2⟩ := st_arrO (hts _ tbl_AO)
  refine ⟨(fun k => if k = 0 then c0 else if k = 1 then c1 else if k = 2 then c2 else if k = 3 then c3 else c4, fun k => if k = 0 then i0 else if k = 1 then i1 else if k = 2 then i2 else if k = 3 then i3 else i4), fun k => if k = 0 then q0 else if k = 1 then q1 else q2, fun n0 f => ⟨⟨fun k q hq => ?_, fun k q hq => ?_⟩, fun w hw => ?_, va_AO.of (hts _ tbl_AO)⟩⟩
  · match k, hq with
    | 0, hq => cases hq; exact k0
    | 1, hq => cases hq; exact k1
    | 2, hq => cases hq; exact k2
    | 3, hq => cases hq; exact k3
    | 4, hq => cases hq; exact k4
    | k + 5, hq => simp at hq
  · match k, hq with
    | 0, hq => cases hq; exact ⟨a0, b0⟩
    | 1, hq => cases hq; exact ⟨a1, b1⟩
    | 2, hq => cases hq; exact ⟨a2, b2⟩
    | k + 3, hq => simp at hq
  · have hm := List.mem_filter.mp hw
    have h1 := hts w hm.1
    have h2 := hm.2
    refine va_Nw.of ?_ h1
    cases w <;> first | rfl | simp [vnest] at h2
theorem st_eval {args : Array Value} {s : State} {nm : String} {z : Nat → Int} {A : Nat → Prop} (harr : (Cond.arrayOf (.static "OrganWind" nm "[I") .int).before args s = true) (hlen : (Cond.eq (.length (.static "OrganWind" nm "[I")) (.int 9)).before args s = true)
    (h0 : (Cond.eq (.elem (.static "OrganWind" nm "[I") (.int 0)) (.int (Int32.ofInt (z 0)))).before args s = true) (h1 : (Cond.eq (.elem (.static "OrganWind" nm "[I") (.int 1)) (.int (Int32.ofInt (z 1)))).before args s = true) (h2 : (Cond.eq (.elem (.static "OrganWind" nm "[I") (.int 2)) (.int (Int32.ofInt (z 2)))).before args s = true) (h3 : (Cond.eq (.elem (.static "OrganWind" nm "[I") (.int 3)) (.int (Int32.ofInt (z 3)))).before args s = true) (h4 : (Cond.eq (.elem (.static "OrganWind" nm "[I") (.int 4)) (.int (Int32.ofInt (z 4)))).before args s = true) (h5 : (Cond.eq (.elem (.static "OrganWind" nm "[I") (.int 5)) (.int (Int32.ofInt (z 5)))).before args s = true) (h6 : (Cond.eq (.elem (.static "OrganWind" nm "[I") (.int 6)) (.int (Int32.ofInt (z 6)))).before args s = true) (h7 : (Cond.eq (.elem (.static "OrganWind" nm "[I") (.int 7)) (.int (Int32.ofInt (z 7)))).before args s = true) (h8 : (Cond.eq (.elem (.static "OrganWind" nm "[I") (.int 8)) (.int (Int32.ofInt (z 8)))).before args s = true)
    (hA : ∀ a : Nat, a < s.heap.size → ¬ A a) : ∃ t : Nat, (Term.static "OrganWind" nm "[I").eval args s none [] s = some (.ref t) ∧ va_T .int t 9 (fun j => .int (Int32.ofInt (z j))) A s s.heap := by
  refine va_Tof (by decide) harr (va_eqt hlen) (fun j hj => ?_) hA
  rcases (show j = 0 ∨ j = 1 ∨ j = 2 ∨ j = 3 ∨ j = 4 ∨ j = 5 ∨ j = 6 ∨ j = 7 ∨ j = 8 by omega) with rfl | rfl | rfl | rfl | rfl | rfl | rfl | rfl | rfl
  · exact va_eqt h0
  · exact va_eqt h1
  · exact va_eqt h2
  · exact va_eqt h3
  · exact va_eqt h4
  · exact va_eqt h5
  · exact va_eqt h6
  · exact va_eqt h7
  · exact va_eqt h8
