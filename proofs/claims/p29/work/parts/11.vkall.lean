/-! ===== calls ===== -/
def vRm (rm R : Room) (mL cl sl : Nat) : Prop := (rm.frames + 1 ≤ R.frames ∧ 8 + (mL + 11) + rm.locals ≤ R.locals) ∧ cl + rm.cells ≤ R.cells ∧ sl + rm.slots ≤ R.slots
section VK
variable {x : vXX} {Q : State → Prop} {G : vGG} {cc : ByteArray} {own : String} {sh : Nat → Option Shp} {n cl sl pc : Nat} {ls : List (Option AV)} {st : List AV} {M : Mem}
variable {y : MethodName} {cy : ByteArray} {mL nA idx : Nat} {ret : Option FieldType} {rm : Room} {post : vPost} {As : List AV}
theorem v_pre {H : Heap} {locs : List Loc} (C : vCX x G cc own ls.length) (hR : vRel G (xs x) sh n M H) (hS : va_S (vnew G) (xs x).heap H locs) : ∀ U : State, U.heap = H → (xs x).WarmedH U.vm → vPre G As sh n M (As.map (vrv G)).toArray U := by
  intro U hU hW
  obtain ⟨-, -, -, -, -, hK, hZ, hB⟩ := C
  refine ⟨rfl, hK.moved hW, ?_, ?_, ?_⟩
  · rw [hU]
    exact (hZ.kept (fun a h1 h2 => hS.2.1 a h1 h2)).moved hW.alike
  · rw [hU]
    exact Nat.le_trans hB hS.1
  · rw [hU]
    exact hR.moved hW.alike
theorem v_back {H : Heap} {locs : List Loc} {la : Array Slot} {st0 : List Value} {a : Array Value} {mc ms : Nat} (C : vCX x G cc own ls.length) (hS : va_S (vnew G) (xs x).heap H locs) (hL : lv_has la ls.length (vprs G 0 ls))
    (hr : va_Run (xp x) (xl x) (xe x) (xR x) (xs x) (xm x) (xa x) (xb x) (xM x) (xc x) H locs cl sl mc ms (F0 (xm x) pc la st0) (st.map (vrv G)) (vQc G post a) (vnew G))
    (kk : ∀ (r : Option AV) (sh' : Nat → Option Shp) (n' : Nat) (M' : Mem), post r sh' n' M' → V x Q G cc own sh' n' (cl + mc) (sl + ms) (pc + 3) ls (r.toList ++ st) M') :
    W (xp x) (xl x) (xe x) (xR x) (xs x) (xm x) (xa x) (xb x) (xM x) (xc x) H locs cl sl Q (F0 (xm x) pc la st0) := by
  intro T hT X
  obtain ⟨v, st₀, t, T', L, h0, X', hL2, e1, e2, ⟨⟨r, sh', n', M', hv, hp, hR'⟩, hz, hk⟩, step⟩ := hr T hT X
  have hv' : v = r.map (vrv G) := by cases hv; rfl
  subst hv'
  rw [h0] at hz hk
  have hal : (xs x).vm.Alike t.vm := by rw [← e2]; exact X'.warmed.alike
  have hS2 : va_S (vnew G) (xs x).heap T'.heap (locs ++ L) := ⟨Nat.le_trans hS.1 (by rw [e1]; exact hz), fun q h1 h2 => by rw [e1, hk q (Nat.lt_of_lt_of_le h1 hS.1) h2]; exact hS.2.1 q h1 h2, fun q hq => by
      rcases List.mem_append.mp hq with h | h
      · exact hS.2.2 q h
      · exact hL2 q h⟩
  obtain ⟨t2, a1, b1⟩ := kk r sh' n' M' hp C T'.heap (locs ++ L) la (by rw [e1]; exact hR'.moved hal.symm) hS2 hL T' rfl X'
  refine ⟨t2, step t2 ?_, b1⟩
  have he : (r.toList ++ st).map (vrv G) = (r.map (vrv G)).toList ++ st.map (vrv G) := by cases r <;> rfl
  rw [← he]
  exact a1
theorem vroomS (h : (st.map vcat).sum ≤ 8) : ((st.map (vrv G)).map fun v => v.category).sum ≤ 8 := by
  rw [List.map_map, show ((fun v : Value => v.category) ∘ vrv G) = vcat from funext fun a => vrv_cat G a]
  exact h
theorem v_callS (hc : Ct (xl x) y cy mL ret rm G As sh n M post) (k0 : vK0 y cy mL ret nA) (kl : Cond.methodLink own idx y ∈ vGT) (ks : Cond.static y ∈ vGT) (hn : As.length = nA) (hR1 : vRm rm (xR x) mL cl sl) (hst : (st.map vcat).sum ≤ 8) (hd : decode cc pc = .ok (.invokestatic idx, 3))
    (kk : ∀ (r : Option AV) (sh' : Nat → Option Shp) (n' : Nat) (M' : Mem), post r sh' n' M' → V x Q G cc own sh' n' (cl + rm.cells) (sl + rm.slots) (pc + 3) ls (r.toList ++ st) M') : V x Q G cc own sh n cl sl pc ls (As.reverse ++ st) M := fun C H locs la hR hS hL => by
  obtain ⟨hd0, hcode, hini⟩ := k0
  refine v_back (a := (As.map (vrv G)).toArray) C hS hL ?_ kk
  exact va_runS (Ts := vGT) (nL := ls.length) ⟨C.1, C.2.1, C.2.2.1, C.2.2.2.1, C.2.2.2.2.1⟩ hc (va_cwS nA C.2.2.2.2.1 (vgoodT (fun w hw => by
      rcases List.mem_append.mp hw with h | h
      · simp only [List.mem_cons, List.not_mem_nil, or_false] at h
        rcases h with rfl | rfl | rfl
        · exact kl
        · exact ks
        · exact hini
      · rcases List.mem_cons.mp h with rfl | h
        · exact hcode
        · exact h)) rfl rfl rfl hd0 hR1.1) ⟨vPre.blind, v_pre C hR hS⟩ rfl (by rw [List.length_map]; exact hn) hL.1 (by simp) (lv_room (vroomS hst)) hd hR1.2
theorem v_callSN {host : String} (hc : Ct (xl x) y cy mL ret rm G As sh n M post) (k0 : vK0 y cy mL ret nA) (kl : Cond.methodLinkNest own idx y host ∈ vNW) (ks : Cond.static y ∈ vGT) (hn : As.length = nA) (hR1 : vRm rm (xR x) mL cl sl) (hst : (st.map vcat).sum ≤ 8) (hd : decode cc pc = .ok (.invokestatic idx, 3))
    (kk : ∀ (r : Option AV) (sh' : Nat → Option Shp) (n' : Nat) (M' : Mem), post r sh' n' M' → V x Q G cc own sh' n' (cl + rm.cells) (sl + rm.slots) (pc + 3) ls (r.toList ++ st) M') : V x Q G cc own sh n cl sl pc ls (As.reverse ++ st) M := fun C H locs la hR hS hL => by
  obtain ⟨hd0, hcode, hini⟩ := k0
  refine v_back (a := (As.map (vrv G)).toArray) C hS hL ?_ kk
  exact va_runSN (Ts := vGT) (nL := ls.length) ⟨C.1, C.2.1, C.2.2.1, C.2.2.2.1, C.2.2.2.2.1⟩ hc ⟨va_cnB nA C.2.2.2.2.1 (vgoodT (fun w hw => by
      rcases List.mem_cons.mp hw with rfl | h
      · exact hcode
      · exact h)) rfl rfl rfl (C.2.2.2.2.2.1.2.1 _ kl) (C.2.2.2.2.1 _ hini) hd0 hR1.1, C.2.2.2.2.1 _ ks, trivial⟩ ⟨vPre.blind, v_pre C hR hS⟩ rfl (by rw [List.length_map]; exact hn) hL.1 (by simp) (lv_room (vroomS hst)) hd hR1.2
theorem v_recv {H : Heap} {b ci : Nat} (C : vCX x G cc own ls.length) (hR : vRel G (xs x) sh n M H) (hs : sh b = some (.inl ci)) (hcl : (vwCl[ci]?).map (fun r => r.1) = some y.cls) : ∃ cellB : Cell, H[vad G b]? = some cellB ∧ cellB.vm.isStatics = false ∧ (xs x).vm.findClass y.cls = some cellB.cls := by
  obtain ⟨hi, r, hr, cell, q1, q2, q3, q4⟩ := hR.2.2.2.2 b _ hs
  rw [hr] at hcl
  have hcl2 : r.1 = y.cls := Option.some.inj hcl
  refine ⟨cell, q1, by rw [q3]; rfl, ?_⟩
  rw [q2, ← hcl2]
  exact (C.2.2.2.2.2.1.1.1 ci r hr).2.1
theorem v_callV {b ci : Nat} (hc : Ct (xl x) y cy mL ret rm G (aR (some b) :: As) sh n M post) (k0 : vK0 y cy mL ret nA) (kl : Cond.methodLink own idx y ∈ vGT) (ki : Cond.instanceMethod y ∈ vGT) (ks : Cond.selects y.cls y y ∈ vGT) (hs : sh b = some (.inl ci)) (hcl : (vwCl[ci]?).map (fun r => r.1) = some y.cls) (hn : As.length = nA) (hR1 : vRm rm (xR x) mL cl sl) (hst : (st.map vcat).sum ≤ 8) (hd : decode cc pc = .ok (.invokevirtual idx, 3))
    (kk : ∀ (r : Option AV) (sh' : Nat → Option Shp) (n' : Nat) (M' : Mem), post r sh' n' M' → V x Q G cc own sh' n' (cl + rm.cells) (sl + rm.slots) (pc + 3) ls (r.toList ++ st) M') : V x Q G cc own sh n cl sl pc ls (As.reverse ++ aR (some b) :: st) M := fun C H locs la hR hS hL => by
  obtain ⟨hd0, hcode, hini⟩ := k0
  refine v_back (a := (Value.ref (vad G b) :: As.map (vrv G)).toArray) C hS hL ?_ kk
  exact va_runV (Ts := vGT) (nL := ls.length) (C := y.cls) (b := vad G b) (As := As.map (vrv G)) ⟨C.1, C.2.1, C.2.2.1, C.2.2.2.1, C.2.2.2.2.1⟩ hc (cwV nA C.2.2.2.2.1 (vgoodT (fun w hw => by
      rcases List.mem_append.mp hw with h | h
      · simp only [List.mem_cons, List.not_mem_nil, or_false] at h
        rcases h with rfl | rfl | rfl | rfl
        · exact kl
        · exact ki
        · exact ks
        · exact hini
      · rcases List.mem_cons.mp h with rfl | h
        · exact hcode
        · exact h)) rfl rfl rfl ⟨rfl, hd0⟩ hR1.1) ⟨vPre.blind, v_recv C hR hs hcl, v_pre (As := aR (some b) :: As) C hR hS⟩ rfl (by rw [List.length_map]; exact hn) hL.1 (by simp [vrv, va_rf]) (lv_room (vroomS hst)) hd hR1.2
theorem v_callI {b : Nat} (hc : Ct (xl x) y cy mL none rm G (aR (some b) :: As) sh n M post) (k0 : vK0 y cy mL none nA) (kl : Cond.methodLink own idx y ∈ vGT) (ki : Cond.instanceMethod y ∈ vGT) (hin : y.name = "<init>") (hn : As.length = nA) (hR1 : vRm rm (xR x) mL cl sl) (hst : (st.map vcat).sum ≤ 8) (hd : decode cc pc = .ok (.invokespecial idx, 3))
    (kk : ∀ (r : Option AV) (sh' : Nat → Option Shp) (n' : Nat) (M' : Mem), post r sh' n' M' → V x Q G cc own sh' n' (cl + rm.cells) (sl + rm.slots) (pc + 3) ls (r.toList ++ st) M') : V x Q G cc own sh n cl sl pc ls (As.reverse ++ aR (some b) :: st) M := fun C H locs la hR hS hL => by
  obtain ⟨hd0, hcode, hini⟩ := k0
  refine v_back (a := (Value.ref (vad G b) :: As.map (vrv G)).toArray) C hS hL ?_ kk
  have hts := C.2.2.2.2.1
  exact va_runI (Ts := vGT) (nL := ls.length) (b := vad G b) (As := As.map (vrv G)) ⟨C.1, C.2.1, C.2.2.1, C.2.2.2.1, C.2.2.2.2.1⟩ hc ⟨callB_of nA hts (vgoodT (fun w hw => by
      rcases List.mem_cons.mp hw with rfl | h
      · exact hcode
      · exact h)) rfl rfl rfl (hts _ hini) (hts _ kl) hd0 hR1.1, hin, hts _ ki⟩ ⟨vPre.blind, v_pre (As := aR (some b) :: As) C hR hS⟩ rfl (by rw [List.length_map]; exact hn) hL.1 (by simp [vrv, va_rf]) (lv_room (vroomS hst)) hd hR1.2
theorem v_callIN {b : Nat} {host : String} (hc : Ct (xl x) y cy mL none rm G (aR (some b) :: As) sh n M post) (k0 : vK0 y cy mL none nA) (kl : Cond.methodLinkNest own idx y host ∈ vNW) (ki : Cond.instanceMethod y ∈ vGT) (hin : y.name = "<init>") (hn : As.length = nA) (hR1 : vRm rm (xR x) mL cl sl) (hst : (st.map vcat).sum ≤ 8) (hd : decode cc pc = .ok (.invokespecial idx, 3))
    (kk : ∀ (r : Option AV) (sh' : Nat → Option Shp) (n' : Nat) (M' : Mem), post r sh' n' M' → V x Q G cc own sh' n' (cl + rm.cells) (sl + rm.slots) (pc + 3) ls (r.toList ++ st) M') : V x Q G cc own sh n cl sl pc ls (As.reverse ++ aR (some b) :: st) M := fun C H locs la hR hS hL => by
  obtain ⟨hd0, hcode, hini⟩ := k0
  refine v_back (a := (Value.ref (vad G b) :: As.map (vrv G)).toArray) C hS hL ?_ kk
  exact va_runIN (Ts := vGT) (nL := ls.length) (b := vad G b) (As := As.map (vrv G)) ⟨C.1, C.2.1, C.2.2.1, C.2.2.2.1, C.2.2.2.2.1⟩ hc ⟨va_cnB nA C.2.2.2.2.1 (vgoodT (fun w hw => by
      rcases List.mem_cons.mp hw with rfl | h
      · exact hcode
      · exact h)) rfl rfl rfl (C.2.2.2.2.2.1.2.1 _ kl) (C.2.2.2.2.1 _ hini) hd0 hR1.1, hin, C.2.2.2.2.1 _ ki⟩ ⟨vPre.blind, v_pre (As := aR (some b) :: As) C hR hS⟩ rfl (by rw [List.length_map]; exact hn) hL.1 (by simp [vrv, va_rf]) (lv_room (vroomS hst)) hd hR1.2
theorem v_callS0 (hc : Ct (xl x) y cy mL ret rm G [] sh n M post) (k0 : vK0 y cy mL ret 0) (kl : Cond.methodLink own idx y ∈ vGT) (ks : Cond.static y ∈ vGT) (hR1 : vRm rm (xR x) mL cl sl) (hst : (st.map vcat).sum ≤ 8) (hd : decode cc pc = .ok (.invokestatic idx, 3)) (kk : ∀ (r : Option AV) (sh' : Nat → Option Shp) (n' : Nat) (M' : Mem), post r sh' n' M' → V x Q G cc own sh' n' (cl + rm.cells) (sl + rm.slots) (pc + 3) ls (r.toList ++ st) M') : V x Q G cc own sh n cl sl pc ls (st) M :=
  v_callS (As := []) hc k0 kl ks rfl hR1 hst hd kk
theorem v_callSN0 {host : String} (hc : Ct (xl x) y cy mL ret rm G [] sh n M post) (k0 : vK0 y cy mL ret 0) (kl : Cond.methodLinkNest own idx y host ∈ vNW) (ks : Cond.static y ∈ vGT) (hR1 : vRm rm (xR x) mL cl sl) (hst : (st.map vcat).sum ≤ 8) (hd : decode cc pc = .ok (.invokestatic idx, 3)) (kk : ∀ (r : Option AV) (sh' : Nat → Option Shp) (n' : Nat) (M' : Mem), post r sh' n' M' → V x Q G cc own sh' n' (cl + rm.cells) (sl + rm.slots) (pc + 3) ls (r.toList ++ st) M') : V x Q G cc own sh n cl sl pc ls (st) M :=
  v_callSN (As := []) hc k0 kl ks rfl hR1 hst hd kk
theorem v_callV0 {b : Nat} (ci : Nat) (hc : Ct (xl x) y cy mL ret rm G [aR (some b)] sh n M post) (k0 : vK0 y cy mL ret 0) (kl : Cond.methodLink own idx y ∈ vGT) (ki : Cond.instanceMethod y ∈ vGT) (ks : Cond.selects y.cls y y ∈ vGT) (hs : sh b = some (.inl ci)) (hcl : (vwCl[ci]?).map (fun r => r.1) = some y.cls) (hR1 : vRm rm (xR x) mL cl sl) (hst : (st.map vcat).sum ≤ 8) (hd : decode cc pc = .ok (.invokevirtual idx, 3)) (kk : ∀ (r : Option AV) (sh' : Nat → Option Shp) (n' : Nat) (M' : Mem), post r sh' n' M' → V x Q G cc own sh' n' (cl + rm.cells) (sl + rm.slots) (pc + 3) ls (r.toList ++ st) M') : V x Q G cc own sh n cl sl pc ls (aR (some b) :: st) M :=
  v_callV (As := []) hc k0 kl ki ks hs hcl rfl hR1 hst hd kk
theorem v_callS1 {a0 : AV} (hc : Ct (xl x) y cy mL ret rm G [a0] sh n M post) (k0 : vK0 y cy mL ret 1) (kl : Cond.methodLink own idx y ∈ vGT) (ks : Cond.static y ∈ vGT) (hR1 : vRm rm (xR x) mL cl sl) (hst : (st.map vcat).sum ≤ 8) (hd : decode cc pc = .ok (.invokestatic idx, 3)) (kk : ∀ (r : Option AV) (sh' : Nat → Option Shp) (n' : Nat) (M' : Mem), post r sh' n' M' → V x Q G cc own sh' n' (cl + rm.cells) (sl + rm.slots) (pc + 3) ls (r.toList ++ st) M') : V x Q G cc own sh n cl sl pc ls (a0 :: st) M :=
  v_callS (As := [a0]) hc k0 kl ks rfl hR1 hst hd kk
theorem v_callSN1 {a0 : AV} {host : String} (hc : Ct (xl x) y cy mL ret rm G [a0] sh n M post) (k0 : vK0 y cy mL ret 1) (kl : Cond.methodLinkNest own idx y host ∈ vNW) (ks : Cond.static y ∈ vGT) (hR1 : vRm rm (xR x) mL cl sl) (hst : (st.map vcat).sum ≤ 8) (hd : decode cc pc = .ok (.invokestatic idx, 3)) (kk : ∀ (r : Option AV) (sh' : Nat → Option Shp) (n' : Nat) (M' : Mem), post r sh' n' M' → V x Q G cc own sh' n' (cl + rm.cells) (sl + rm.slots) (pc + 3) ls (r.toList ++ st) M') : V x Q G cc own sh n cl sl pc ls (a0 :: st) M :=
  v_callSN (As := [a0]) hc k0 kl ks rfl hR1 hst hd kk
theorem v_callV1 {a0 : AV} {b : Nat} (ci : Nat) (hc : Ct (xl x) y cy mL ret rm G [aR (some b), a0] sh n M post) (k0 : vK0 y cy mL ret 1) (kl : Cond.methodLink own idx y ∈ vGT) (ki : Cond.instanceMethod y ∈ vGT) (ks : Cond.selects y.cls y y ∈ vGT) (hs : sh b = some (.inl ci)) (hcl : (vwCl[ci]?).map (fun r => r.1) = some y.cls) (hR1 : vRm rm (xR x) mL cl sl) (hst : (st.map vcat).sum ≤ 8) (hd : decode cc pc = .ok (.invokevirtual idx, 3)) (kk : ∀ (r : Option AV) (sh' : Nat → Option Shp) (n' : Nat) (M' : Mem), post r sh' n' M' → V x Q G cc own sh' n' (cl + rm.cells) (sl + rm.slots) (pc + 3) ls (r.toList ++ st) M') : V x Q G cc own sh n cl sl pc ls (a0 :: aR (some b) :: st) M :=
  v_callV (As := [a0]) hc k0 kl ki ks hs hcl rfl hR1 hst hd kk
theorem v_callS2 {a0 a1 : AV} (hc : Ct (xl x) y cy mL ret rm G [a0, a1] sh n M post) (k0 : vK0 y cy mL ret 2) (kl : Cond.methodLink own idx y ∈ vGT) (ks : Cond.static y ∈ vGT) (hR1 : vRm rm (xR x) mL cl sl) (hst : (st.map vcat).sum ≤ 8) (hd : decode cc pc = .ok (.invokestatic idx, 3)) (kk : ∀ (r : Option AV) (sh' : Nat → Option Shp) (n' : Nat) (M' : Mem), post r sh' n' M' → V x Q G cc own sh' n' (cl + rm.cells) (sl + rm.slots) (pc + 3) ls (r.toList ++ st) M') : V x Q G cc own sh n cl sl pc ls (a1 :: a0 :: st) M :=
  v_callS (As := [a0, a1]) hc k0 kl ks rfl hR1 hst hd kk
theorem v_callSN2 {a0 a1 : AV} {host : String} (hc : Ct (xl x) y cy mL ret rm G [a0, a1] sh n M post) (k0 : vK0 y cy mL ret 2) (kl : Cond.methodLinkNest own idx y host ∈ vNW) (ks : Cond.static y ∈ vGT) (hR1 : vRm rm (xR x) mL cl sl) (hst : (st.map vcat).sum ≤ 8) (hd : decode cc pc = .ok (.invokestatic idx, 3)) (kk : ∀ (r : Option AV) (sh' : Nat → Option Shp) (n' : Nat) (M' : Mem), post r sh' n' M' → V x Q G cc own sh' n' (cl + rm.cells) (sl + rm.slots) (pc + 3) ls (r.toList ++ st) M') : V x Q G cc own sh n cl sl pc ls (a1 :: a0 :: st) M :=
  v_callSN (As := [a0, a1]) hc k0 kl ks rfl hR1 hst hd kk
theorem v_callV2 {a0 a1 : AV} {b : Nat} (ci : Nat) (hc : Ct (xl x) y cy mL ret rm G [aR (some b), a0, a1] sh n M post) (k0 : vK0 y cy mL ret 2) (kl : Cond.methodLink own idx y ∈ vGT) (ki : Cond.instanceMethod y ∈ vGT) (ks : Cond.selects y.cls y y ∈ vGT) (hs : sh b = some (.inl ci)) (hcl : (vwCl[ci]?).map (fun r => r.1) = some y.cls) (hR1 : vRm rm (xR x) mL cl sl) (hst : (st.map vcat).sum ≤ 8) (hd : decode cc pc = .ok (.invokevirtual idx, 3)) (kk : ∀ (r : Option AV) (sh' : Nat → Option Shp) (n' : Nat) (M' : Mem), post r sh' n' M' → V x Q G cc own sh' n' (cl + rm.cells) (sl + rm.slots) (pc + 3) ls (r.toList ++ st) M') : V x Q G cc own sh n cl sl pc ls (a1 :: a0 :: aR (some b) :: st) M :=
  v_callV (As := [a0, a1]) hc k0 kl ki ks hs hcl rfl hR1 hst hd kk
theorem v_callS3 {a0 a1 a2 : AV} (hc : Ct (xl x) y cy mL ret rm G [a0, a1, a2] sh n M post) (k0 : vK0 y cy mL ret 3) (kl : Cond.methodLink own idx y ∈ vGT) (ks : Cond.static y ∈ vGT) (hR1 : vRm rm (xR x) mL cl sl) (hst : (st.map vcat).sum ≤ 8) (hd : decode cc pc = .ok (.invokestatic idx, 3)) (kk : ∀ (r : Option AV) (sh' : Nat → Option Shp) (n' : Nat) (M' : Mem), post r sh' n' M' → V x Q G cc own sh' n' (cl + rm.cells) (sl + rm.slots) (pc + 3) ls (r.toList ++ st) M') : V x Q G cc own sh n cl sl pc ls (a2 :: a1 :: a0 :: st) M :=
  v_callS (As := [a0, a1, a2]) hc k0 kl ks rfl hR1 hst hd kk
theorem v_callSN3 {a0 a1 a2 : AV} {host : String} (hc : Ct (xl x) y cy mL ret rm G [a0, a1, a2] sh n M post) (k0 : vK0 y cy mL ret 3) (kl : Cond.methodLinkNest own idx y host ∈ vNW) (ks : Cond.static y ∈ vGT) (hR1 : vRm rm (xR x) mL cl sl) (hst : (st.map vcat).sum ≤ 8) (hd : decode cc pc = .ok (.invokestatic idx, 3)) (kk : ∀ (r : Option AV) (sh' : Nat → Option Shp) (n' : Nat) (M' : Mem), post r sh' n' M' → V x Q G cc own sh' n' (cl + rm.cells) (sl + rm.slots) (pc + 3) ls (r.toList ++ st) M') : V x Q G cc own sh n cl sl pc ls (a2 :: a1 :: a0 :: st) M :=
  v_callSN (As := [a0, a1, a2]) hc k0 kl ks rfl hR1 hst hd kk
theorem v_callV3 {a0 a1 a2 : AV} {b : Nat} (ci : Nat) (hc : Ct (xl x) y cy mL ret rm G [aR (some b), a0, a1, a2] sh n M post) (k0 : vK0 y cy mL ret 3) (kl : Cond.methodLink own idx y ∈ vGT) (ki : Cond.instanceMethod y ∈ vGT) (ks : Cond.selects y.cls y y ∈ vGT) (hs : sh b = some (.inl ci)) (hcl : (vwCl[ci]?).map (fun r => r.1) = some y.cls) (hR1 : vRm rm (xR x) mL cl sl) (hst : (st.map vcat).sum ≤ 8) (hd : decode cc pc = .ok (.invokevirtual idx, 3)) (kk : ∀ (r : Option AV) (sh' : Nat → Option Shp) (n' : Nat) (M' : Mem), post r sh' n' M' → V x Q G cc own sh' n' (cl + rm.cells) (sl + rm.slots) (pc + 3) ls (r.toList ++ st) M') : V x Q G cc own sh n cl sl pc ls (a2 :: a1 :: a0 :: aR (some b) :: st) M :=
  v_callV (As := [a0, a1, a2]) hc k0 kl ki ks hs hcl rfl hR1 hst hd kk
theorem v_callS4 {a0 a1 a2 a3 : AV} (hc : Ct (xl x) y cy mL ret rm G [a0, a1, a2, a3] sh n M post) (k0 : vK0 y cy mL ret 4) (kl : Cond.methodLink own idx y ∈ vGT) (ks : Cond.static y ∈ vGT) (hR1 : vRm rm (xR x) mL cl sl) (hst : (st.map vcat).sum ≤ 8) (hd : decode cc pc = .ok (.invokestatic idx, 3)) (kk : ∀ (r : Option AV) (sh' : Nat → Option Shp) (n' : Nat) (M' : Mem), post r sh' n' M' → V x Q G cc own sh' n' (cl + rm.cells) (sl + rm.slots) (pc + 3) ls (r.toList ++ st) M') : V x Q G cc own sh n cl sl pc ls (a3 :: a2 :: a1 :: a0 :: st) M :=
  v_callS (As := [a0, a1, a2, a3]) hc k0 kl ks rfl hR1 hst hd kk
theorem v_callSN4 {a0 a1 a2 a3 : AV} {host : String} (hc : Ct (xl x) y cy mL ret rm G [a0, a1, a2, a3] sh n M post) (k0 : vK0 y cy mL ret 4) (kl : Cond.methodLinkNest own idx y host ∈ vNW) (ks : Cond.static y ∈ vGT) (hR1 : vRm rm (xR x) mL cl sl) (hst : (st.map vcat).sum ≤ 8) (hd : decode cc pc = .ok (.invokestatic idx, 3)) (kk : ∀ (r : Option AV) (sh' : Nat → Option Shp) (n' : Nat) (M' : Mem), post r sh' n' M' → V x Q G cc own sh' n' (cl + rm.cells) (sl + rm.slots) (pc + 3) ls (r.toList ++ st) M') : V x Q G cc own sh n cl sl pc ls (a3 :: a2 :: a1 :: a0 :: st) M :=
  v_callSN (As := [a0, a1, a2, a3]) hc k0 kl ks rfl hR1 hst hd kk
theorem v_callV4 {a0 a1 a2 a3 : AV} {b : Nat} (ci : Nat) (hc : Ct (xl x) y cy mL ret rm G [aR (some b), a0, a1, a2, a3] sh n M post) (k0 : vK0 y cy mL ret 4) (kl : Cond.methodLink own idx y ∈ vGT) (ki : Cond.instanceMethod y ∈ vGT) (ks : Cond.selects y.cls y y ∈ vGT) (hs : sh b = some (.inl ci)) (hcl : (vwCl[ci]?).map (fun r => r.1) = some y.cls) (hR1 : vRm rm (xR x) mL cl sl) (hst : (st.map vcat).sum ≤ 8) (hd : decode cc pc = .ok (.invokevirtual idx, 3)) (kk : ∀ (r : Option AV) (sh' : Nat → Option Shp) (n' : Nat) (M' : Mem), post r sh' n' M' → V x Q G cc own sh' n' (cl + rm.cells) (sl + rm.slots) (pc + 3) ls (r.toList ++ st) M') : V x Q G cc own sh n cl sl pc ls (a3 :: a2 :: a1 :: a0 :: aR (some b) :: st) M :=
  v_callV (As := [a0, a1, a2, a3]) hc k0 kl ki ks hs hcl rfl hR1 hst hd kk
end VK
