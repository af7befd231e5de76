/-! ===== the start (by hand) ===== -/
theorem LayX.low {r r2 : Nat → Nat → Option Nat} (h : LayX r) (e : ∀ i, i < 110 → r2 i = r i) : LayX r2 := by
  obtain ⟨h1, h2, h3, h4, h5, h6⟩ := h
  refine ⟨fun b hb k hk => ?_, fun w hw k hk => ?_, ?_, ?_, ?_, ?_⟩
  · rw [e b (by have := stB_lt hb; omega)]; exact h1 b hb k hk
  · rw [e w (by have := wiB_lt hw; omega)]; exact h2 w hw k hk
  · rw [e 24 (by decide)]; exact h3
  · rw [e 0 (by decide)]; exact h4
  · rw [e 22 (by decide)]; exact h5
  · rw [e 22 (by decide)]; exact h6
theorem sg0_at : sg0 10 = 0 ∧ sg0 11 = 0 ∧ sg0 12 = 0 := by decide +kernel
abbrev vz4 (N : Mem) : Mem := vz (vz (vz (vz N 110) 111) 112) 113
theorem vz4_1 {N : Mem} {i : Nat} (h : i < 110 ∨ 114 ≤ i) : (vz4 N).1 i = N.1 i := by
  rw [vz_1 (by omega), vz_1 (by omega), vz_1 (by omega), vz_1 (by omega)]
theorem vz4_2 {N : Mem} {i : Nat} (h : i < 110 ∨ 114 ≤ i) : (vz4 N).2 i = N.2 i := by
  rw [vz_2 (by omega), vz_2 (by omega), vz_2 (by omega), vz_2 (by omega)]
theorem vz4_0 {N : Mem} : (vz4 N).1 110 = (fun _ => 0) ∧ (vz4 N).1 112 = (fun _ => 0) ∧ (vz4 N).1 113 = fun _ => 0 := by
  refine ⟨?_, ?_, ?_⟩
  · rw [vz_1 (by decide), vz_1 (by decide), vz_1 (by decide), vz_s]
  · rw [vz_1 (by decide), vz_s]
  · rw [vz_s]
theorem start_J {M0 N K : Mem} (hC : XC 110 8 5 2 M0 N) (hK : bgW 8 (vz4 N) K) (hlo : ∀ k, k < 9 → M0.1 1001 k = tLo k) (hhi : ∀ k, k < 9 → M0.1 1002 k = tHi k) : ∃ (h : Nat → Nat) (ro : Nat → Sg) (ke : Nat → Int) (kr : Nat → Sg) (L : Nat → Int), JX sg0 0 h ro ke kr 0 L (bgQ 3000 K) ∧ ke 0 = 0 ∧ LW sg0 (bgQ 3000 K) := by
  have hL := hC.lay
  obtain ⟨a1, a2, a3, a4, a5, a6, a7, a8, a9, a10⟩ := hC
  obtain ⟨k1, k2, k3, k4⟩ := hK
  obtain ⟨b1, b2, b3⟩ := bgQ_at (z := 3000) (M := K)
  obtain ⟨z0, z2, z3⟩ := vz4_0 (N := N)
  have e1 : ∀ i, (i < 110 ∨ 114 ≤ i) → (bgQ 3000 K).1 i = N.1 i := fun i hi => by rw [b2 i (by omega) (by omega), k2 i (by omega)]; exact vz4_1 hi
  have e2 : ∀ i, (i < 110 ∨ 114 ≤ i) → (bgQ 3000 K).2 i = N.2 i := fun i hi => by
    show K.2 i = N.2 i
    rw [k1]
    exact vz4_2 hi
  have e3 : ∀ i, 1000 ≤ i → (bgQ 3000 K).1 i = M0.1 i := fun i hi => by rw [e1 i (by omega)]; exact (a1 i (by omega)).1
  refine ⟨fun k => 40 + 10 * k, fun _ => sg0, fun _ => 0, fun _ => sg0, fun _ => 0, ?_, rfl, ?_⟩
  · refine ⟨hL.low (fun i hi => e2 i (by omega)), ⟨(a4 (by decide)).keep (fun i p q => e1 i (by omega)), sg0_inv⟩, ⟨⟨by rw [e1 0 (by decide), a2]; rfl, by decide⟩, fun k hk => by rw [e2 21 (by decide)]; exact (a9 k hk).2, fun k hk => ⟨by dsimp only; unfold stB; omega, by dsimp only; omega, by dsimp only; omega⟩, fun j k _ _ q => by dsimp only at q; omega, fun i hi => absurd hi (by omega)⟩, fun s hs => ⟨by rw [e1 23 (by decide), a7 (by decide)]; rfl, .inl rfl, fun q => absurd rfl q⟩, ⟨by rw [e1 24 (by decide), (a6 (by decide)).2]; rfl, fun k hk => absurd hk (by omega), ⟨by decide, fun k hk => absurd hk (by omega)⟩⟩, fun k hk => ⟨by rw [e3 1001 (by decide)]; exact hlo k hk, by rw [e3 1002 (by decide)]; exact hhi k hk⟩⟩
  · refine ⟨fun s hs => ?_, fun k hk => ?_, fun s hs => ?_, ?_⟩
    · have hs0 := sg0_st s hs
      rw [b2 110 (by decide) (by decide), hs0.1, hs0.2.1, hs0.2.2.2.1, k4 s hs, z0]
      exact ⟨(k3 s hs).1, (k3 s hs).2, rfl⟩
    · rw [b1 k hk, sg0_set hk]
    · rw [b2 112 (by decide) (by decide), k2 112 (by decide), z2, sg0_hi (by omega)]
    · rw [b3 1 (by decide), b3 2 (by decide), b3 3 (by decide), k2 113 (by decide), z3, sg0_at.1, sg0_at.2.1, sg0_at.2.2]
      exact ⟨rfl, rfl, rfl⟩
/-- the memory at the start: the three static rows -/
def Ms : Mem := (fun i k => if i = 1000 then tFs k else if i = 1001 then tLo k else if i = 1002 then tHi k else 0, fun _ _ => none)
theorem tbl_of {w : Cond} (h : w ∈ vGT) : w ∈ lw_tbl := (List.mem_filter.mp h).1
theorem tbl_Fs : Cond.laysStatic "OrganWind" "FIRST_SETTING" "[I" ∈ lw_tbl := List.mem_of_getElem? (i := 45) (by decide +kernel)
theorem tbl_Lo : Cond.laysStatic "OrganWind" "LEAST_SETTING" "[I" ∈ lw_tbl := List.mem_of_getElem? (i := 522) (by decide +kernel)
theorem tbl_Hi : Cond.laysStatic "OrganWind" "MOST_SETTING" "[I" ∈ lw_tbl := List.mem_of_getElem? (i := 524) (by decide +kernel)
theorem tbl_AO : Cond.arrayOver (.object RX0) ∈ lw_tbl := List.mem_of_getElem? (i := 133) (by decide +kernel)
theorem st_arr {args : Array Value} {s : State} {ty : FieldType} (h : (Cond.arrayClass ty).before args s = true) : ∃ cA : ClassId, ArrOfT s cA ty ∧ s.vm.findClass ("[" ++ ty.toString) = some cA := by
  obtain ⟨cA, kA, comp, f1, f2, f3⟩ := Cond.arrayClass_spec h
  exact ⟨cA, fun n z => ⟨fun k h => (by cases h), kA, f2, comp, f3⟩, f1⟩
theorem st_arrO {args : Array Value} {s : State} {C : String} (h : (Cond.arrayOver (.object C)).before args s = true) : ∃ cA : ClassId, ArrOfT s cA (.object C) ∧ va_RA s cA (.object C) := by
  obtain ⟨comp, cA, kA, g1, g2, g3, g4, g5⟩ := Cond.arrayOver_spec h
  exact ⟨cA, fun n z => ⟨fun k h => (by cases h), kA, g3, comp, g4⟩, kA, comp, g3, g4, g1, g5⟩
theorem st_K {args : Array Value} {s : State} (hts : ∀ w ∈ lw_tbl, w.before args s = true) : ∃ (D : va_G) (E : Nat → ClassId), ∀ (n0 : Nat) (f : Nat → Nat), vKF (D, E, n0, f) s := by
  obtain ⟨c0, i0, k0⟩ := u_known (C := RX0) (T := TX0) (N := 20) (n := 20) hts (fun w h => tbl_of (vcls0 w h)) (hts _ (tbl_of li_0))
  obtain ⟨c1, i1, k1⟩ := u_known (C := RX1) (T := TX1) (N := 7) (n := 7) hts (fun w h => tbl_of (vcls1 w h)) (hts _ (tbl_of li_1))
  obtain ⟨c2, i2, k2⟩ := u_known (C := RX2) (T := TX2) (N := 6) (n := 6) hts (fun w h => tbl_of (vcls2 w h)) (hts _ (tbl_of li_2))
  obtain ⟨c3, i3, k3⟩ := u_known (C := RX3) (T := TX3) (N := 9) (n := 9) hts (fun w h => tbl_of (vcls3 w h)) (hts _ (tbl_of li_3))
  obtain ⟨q0, a0, b0⟩ := st_arr (hts _ (tbl_of la_I))
  obtain ⟨q1, a1, b1⟩ := st_arr (hts _ (tbl_of la_Z))
  obtain ⟨q2, a2, b2⟩ := st_arrO (hts _ tbl_AO)
  refine ⟨(fun k => if k = 0 then c0 else if k = 1 then c1 else if k = 2 then c2 else c3, fun k => if k = 0 then i0 else if k = 1 then i1 else if k = 2 then i2 else i3), fun k => if k = 0 then q0 else if k = 1 then q1 else q2, fun n0 f => ⟨⟨fun k q hq => ?_, fun k q hq => ?_⟩, fun w hw => ?_, va_AO.of (hts _ tbl_AO)⟩⟩
  · match k, hq with
    | 0, hq => cases hq; exact k0
    | 1, hq => cases hq; exact k1
    | 2, hq => cases hq; exact k2
    | 3, hq => cases hq; exact k3
    | k + 4, hq => simp at hq
  · match k, hq with
    | 0, hq => cases hq; exact ⟨a0, b0⟩
    | 1, hq => cases hq; exact ⟨a1, b1⟩
    | 2, hq => cases hq; exact ⟨a2, b2⟩
    | k + 3, hq => simp at hq
  · have hm := List.mem_filter.mp hw
    have h1 := hts w hm.1
    have h2 := hm.2
    refine va_Nw.of ?_ h1
    cases w <;> first | rfl | simp [vnest] at h2
theorem st_eval {args : Array Value} {s : State} {nm : String} {z : Nat → Int} {A : Nat → Prop} (harr : (Cond.arrayOf (.static "OrganWind" nm "[I") .int).before args s = true) (hlen : (Cond.eq (.length (.static "OrganWind" nm "[I")) (.int 9)).before args s = true)
    (h0 : (Cond.eq (.elem (.static "OrganWind" nm "[I") (.int 0)) (.int (Int32.ofInt (z 0)))).before args s = true) (h1 : (Cond.eq (.elem (.static "OrganWind" nm "[I") (.int 1)) (.int (Int32.ofInt (z 1)))).before args s = true) (h2 : (Cond.eq (.elem (.static "OrganWind" nm "[I") (.int 2)) (.int (Int32.ofInt (z 2)))).before args s = true) (h3 : (Cond.eq (.elem (.static "OrganWind" nm "[I") (.int 3)) (.int (Int32.ofInt (z 3)))).before args s = true) (h4 : (Cond.eq (.elem (.static "OrganWind" nm "[I") (.int 4)) (.int (Int32.ofInt (z 4)))).before args s = true) (h5 : (Cond.eq (.elem (.static "OrganWind" nm "[I") (.int 5)) (.int (Int32.ofInt (z 5)))).before args s = true) (h6 : (Cond.eq (.elem (.static "OrganWind" nm "[I") (.int 6)) (.int (Int32.ofInt (z 6)))).before args s = true) (h7 : (Cond.eq (.elem (.static "OrganWind" nm "[I") (.int 7)) (.int (Int32.ofInt (z 7)))).before args s = true) (h8 : (Cond.eq (.elem (.static "OrganWind" nm "[I") (.int 8)) (.int (Int32.ofInt (z 8)))).before args s = true)
    (hA : ∀ a : Nat, a < s.heap.size → ¬ A a) : ∃ t : Nat, (Term.static "OrganWind" nm "[I").eval args s none [] s = some (.ref t) ∧ va_T .int t 9 (fun j => .int (Int32.ofInt (z j))) A s s.heap := by
  refine va_Tof (by decide) harr (va_eqt hlen) (fun j hj => ?_) hA
  rcases (show j = 0 ∨ j = 1 ∨ j = 2 ∨ j = 3 ∨ j = 4 ∨ j = 5 ∨ j = 6 ∨ j = 7 ∨ j = 8 by omega) with rfl | rfl | rfl | rfl | rfl | rfl | rfl | rfl | rfl
  · exact va_eqt h0
  · exact va_eqt h1
  · exact va_eqt h2
  · exact va_eqt h3
  · exact va_eqt h4
  · exact va_eqt h5
  · exact va_eqt h6
  · exact va_eqt h7
  · exact va_eqt h8
