/-! ===== the law: its rules (by program) ===== -/
section LR
variable {x : vXX} {Q : State → Prop} {G : vGG} {cc : ByteArray} {own : String} {sh : Nat → Option Shp} {n cl sl pc : Nat} {ls : List (Option AV)} {st : List AV} {M M1 : Mem}
theorem v_ist14 {a0 a1 a2 a3 a4 a5 a6 a7 a8 a9 a10 a11 a12 a13 a14 : Option AV} {r : List (Option AV)} {z : Int} (hd : decode cc pc = .ok (.istore 14, 2)) (hn : vnl1 a13 = true) (k : V x Q G cc own sh n cl sl (pc + 2) (a0 :: a1 :: a2 :: a3 :: a4 :: a5 :: a6 :: a7 :: a8 :: a9 :: a10 :: a11 :: a12 :: a13 :: some (aI z) :: r) st M) : V x Q G cc own sh n cl sl pc (a0 :: a1 :: a2 :: a3 :: a4 :: a5 :: a6 :: a7 :: a8 :: a9 :: a10 :: a11 :: a12 :: a13 :: a14 :: r) (aI z :: st) M :=
  v_istore (j := 14) hd (by simp) (by exact hn) k
theorem v_ist15 {a0 a1 a2 a3 a4 a5 a6 a7 a8 a9 a10 a11 a12 a13 a14 a15 : Option AV} {r : List (Option AV)} {z : Int} (hd : decode cc pc = .ok (.istore 15, 2)) (hn : vnl1 a14 = true) (k : V x Q G cc own sh n cl sl (pc + 2) (a0 :: a1 :: a2 :: a3 :: a4 :: a5 :: a6 :: a7 :: a8 :: a9 :: a10 :: a11 :: a12 :: a13 :: a14 :: some (aI z) :: r) st M) : V x Q G cc own sh n cl sl pc (a0 :: a1 :: a2 :: a3 :: a4 :: a5 :: a6 :: a7 :: a8 :: a9 :: a10 :: a11 :: a12 :: a13 :: a14 :: a15 :: r) (aI z :: st) M :=
  v_istore (j := 15) hd (by simp) (by exact hn) k
theorem v_ist16 {a0 a1 a2 a3 a4 a5 a6 a7 a8 a9 a10 a11 a12 a13 a14 a15 a16 : Option AV} {r : List (Option AV)} {z : Int} (hd : decode cc pc = .ok (.istore 16, 2)) (hn : vnl1 a15 = true) (k : V x Q G cc own sh n cl sl (pc + 2) (a0 :: a1 :: a2 :: a3 :: a4 :: a5 :: a6 :: a7 :: a8 :: a9 :: a10 :: a11 :: a12 :: a13 :: a14 :: a15 :: some (aI z) :: r) st M) : V x Q G cc own sh n cl sl pc (a0 :: a1 :: a2 :: a3 :: a4 :: a5 :: a6 :: a7 :: a8 :: a9 :: a10 :: a11 :: a12 :: a13 :: a14 :: a15 :: a16 :: r) (aI z :: st) M :=
  v_istore (j := 16) hd (by simp) (by exact hn) k
theorem v_ist17 {a0 a1 a2 a3 a4 a5 a6 a7 a8 a9 a10 a11 a12 a13 a14 a15 a16 a17 : Option AV} {r : List (Option AV)} {z : Int} (hd : decode cc pc = .ok (.istore 17, 2)) (hn : vnl1 a16 = true) (k : V x Q G cc own sh n cl sl (pc + 2) (a0 :: a1 :: a2 :: a3 :: a4 :: a5 :: a6 :: a7 :: a8 :: a9 :: a10 :: a11 :: a12 :: a13 :: a14 :: a15 :: a16 :: some (aI z) :: r) st M) : V x Q G cc own sh n cl sl pc (a0 :: a1 :: a2 :: a3 :: a4 :: a5 :: a6 :: a7 :: a8 :: a9 :: a10 :: a11 :: a12 :: a13 :: a14 :: a15 :: a16 :: a17 :: r) (aI z :: st) M :=
  v_istore (j := 17) hd (by simp) (by exact hn) k
theorem v_ist18 {a0 a1 a2 a3 a4 a5 a6 a7 a8 a9 a10 a11 a12 a13 a14 a15 a16 a17 a18 : Option AV} {r : List (Option AV)} {z : Int} (hd : decode cc pc = .ok (.istore 18, 2)) (hn : vnl1 a17 = true) (k : V x Q G cc own sh n cl sl (pc + 2) (a0 :: a1 :: a2 :: a3 :: a4 :: a5 :: a6 :: a7 :: a8 :: a9 :: a10 :: a11 :: a12 :: a13 :: a14 :: a15 :: a16 :: a17 :: some (aI z) :: r) st M) : V x Q G cc own sh n cl sl pc (a0 :: a1 :: a2 :: a3 :: a4 :: a5 :: a6 :: a7 :: a8 :: a9 :: a10 :: a11 :: a12 :: a13 :: a14 :: a15 :: a16 :: a17 :: a18 :: r) (aI z :: st) M :=
  v_istore (j := 18) hd (by simp) (by exact hn) k
theorem v_iinc17 {a0 a1 a2 a3 a4 a5 a6 a7 a8 a9 a10 a11 a12 a13 a14 a15 a16 : Option AV} {r : List (Option AV)} {z d : Int} (hd : decode cc pc = .ok (.iinc 17 d, 3)) (hn : vnl1 a16 = true) (k : V x Q G cc own sh n cl sl (pc + 3) (a0 :: a1 :: a2 :: a3 :: a4 :: a5 :: a6 :: a7 :: a8 :: a9 :: a10 :: a11 :: a12 :: a13 :: a14 :: a15 :: a16 :: some (aI (z + d)) :: r) st M) : V x Q G cc own sh n cl sl pc (a0 :: a1 :: a2 :: a3 :: a4 :: a5 :: a6 :: a7 :: a8 :: a9 :: a10 :: a11 :: a12 :: a13 :: a14 :: a15 :: a16 :: some (aI z) :: r) st M :=
  v_iinc (j := 17) hd rfl (by exact hn) k
theorem v_lst2 {a0 a1 a2 a3 : Option AV} {r : List (Option AV)} {z : Int} (hd : decode cc pc = .ok (.lstore_n 2, 1)) (hn : vnl1 a1 = true) (k : V x Q G cc own sh n cl sl (pc + 1) (a0 :: a1 :: some (aL z) :: none :: r) st M) : V x Q G cc own sh n cl sl pc (a0 :: a1 :: a2 :: a3 :: r) (aL z :: st) M :=
  v_lstore_n (j := 2) rfl hd (by simp) (by exact hn) k
theorem v_lstore {j : Nat} {z : Int} (hd : decode cc pc = .ok (.lstore j, 2)) (hi : j + 1 < ls.length) (hn : vnl ls j = true) (k : V x Q G cc own sh n cl sl (pc + 2) ((ls.set j (some (aL z))).set (j + 1) none) st M) : V x Q G cc own sh n cl sl pc ls (aL z :: st) M :=
  fun C H locs la hR hS hL => lv_lstore C.1 C.2.1 hd hL hi rfl (fun la' h' => k (by rw [List.length_set, List.length_set]; exact C) H locs la' hR hS (vls_set2 (z := z) hi hn h'))
theorem v_lst8 {a0 a1 a2 a3 a4 a5 a6 a7 a8 a9 : Option AV} {r : List (Option AV)} {z : Int} (hd : decode cc pc = .ok (.lstore 8, 2)) (hn : vnl1 a7 = true) (k : V x Q G cc own sh n cl sl (pc + 2) (a0 :: a1 :: a2 :: a3 :: a4 :: a5 :: a6 :: a7 :: some (aL z) :: none :: r) st M) : V x Q G cc own sh n cl sl pc (a0 :: a1 :: a2 :: a3 :: a4 :: a5 :: a6 :: a7 :: a8 :: a9 :: r) (aL z :: st) M :=
  v_lstore (j := 8) hd (by simp) (by exact hn) k
theorem v_lst7 {a0 a1 a2 a3 a4 a5 a6 a7 a8 : Option AV} {r : List (Option AV)} {z : Int} (hd : decode cc pc = .ok (.lstore 7, 2)) (hn : vnl1 a6 = true) (k : V x Q G cc own sh n cl sl (pc + 2) (a0 :: a1 :: a2 :: a3 :: a4 :: a5 :: a6 :: some (aL z) :: none :: r) st M) : V x Q G cc own sh n cl sl pc (a0 :: a1 :: a2 :: a3 :: a4 :: a5 :: a6 :: a7 :: a8 :: r) (aL z :: st) M :=
  v_lstore (j := 7) hd (by simp) (by exact hn) k
theorem lg_cmp_s (a : Int64) : lg_cmp a a = 0 := by
  unfold lg_cmp
  simp
theorem v_lcmpS {a b : Int} (hd : decode cc pc = .ok (.lcmp, 1)) (h : a = b) (k : V x Q G cc own sh n cl sl (pc + 1) ls (aI 0 :: st) M) : V x Q G cc own sh n cl sl pc ls (aL b :: aL a :: st) M := by
  subst h
  exact fun C H locs la hR hS hL => W.lcmp C.1 C.2.1 hd (by rw [lg_cmp_s]; exact k C H locs la hR hS hL)
theorem v_icmp_neS {a b off : Int} (hd : decode cc pc = .ok (.if_icmp .ne off, 3)) (tgt : Nat) (ht : (pc : Int) + off = (tgt : Int)) (h : a = b) (k : V x Q G cc own sh n cl sl (pc + 3) ls st M) : V x Q G cc own sh n cl sl pc ls (aI b :: aI a :: st) M := by
  subst h
  exact fun C H locs la hR hS hL => lv_icmp_ne C.1 C.2.1 hd ht (fun h => absurd rfl h) (fun _ => k C H locs la hR hS hL)
theorem l_eqI {z u : Int} (h : z = u) (kk : V x Q G cc own sh n cl sl pc ls (aI u :: st) M) : V x Q G cc own sh n cl sl pc ls (aI z :: st) M := h ▸ kk
theorem l_iald {i len j : Nat} {z u : Int} (hs : sh i = some (.inr (0, len))) (hz : z = (j : Int)) (hj : j < len ∧ len ≤ 2147483647) (hu : M.1 i j = u) (hd : decode cc pc = .ok (.iaload, 1)) (kk : V x Q G cc own sh n cl sl (pc + 1) ls (aI u :: st) M) : V x Q G cc own sh n cl sl pc ls (aI z :: aR (some i) :: st) M := by
  subst hz
  refine v_iald hs (by omega) hd ?_
  rw [Int.toNat_natCast, hu]
  exact kk
/-- the script stands where it stood -/
def sX (x : vXX) (G : vGG) (Ln : Nat) (zs : Nat → Int32) : Prop := va_X (G.2.2.2 1003) Ln zs (xs x) (xs x).heap ∧ G.2.2.2 1003 < (xs x).heap.size ∧ ¬ vnew G (G.2.2.2 1003) ∧ Ln ≤ 260
variable {Ln : Nat} {zs : Nat → Int32}
theorem v_slen (C : sX x G Ln zs) (hd : decode cc pc = .ok (.arraylength, 1)) (kk : V x Q G cc own sh n cl sl (pc + 1) ls (aI (Ln : Int) :: st) M) : V x Q G cc own sh n cl sl pc ls (aR (some 1003) :: st) M := fun D H locs la hR hS hL => by
  obtain ⟨c4, c5, c6, c7⟩ := C
  have K := kk D H locs la hR hS hL
  exact va_slen D.1 D.2.1 c4 c5 c6 hS hd K
theorem v_sld {j : Nat} {z : Int} (C : sX x G Ln zs) (hz : z = (j : Int)) (hj : j < Ln) (hd : decode cc pc = .ok (.iaload, 1)) (kk : V x Q G cc own sh n cl sl (pc + 1) ls (aI (zs j).toInt :: st) M) : V x Q G cc own sh n cl sl pc ls (aI z :: aR (some 1003) :: st) M := fun D H locs la hR hS hL => by
  obtain ⟨c4, c5, c6, c7⟩ := C
  subst hz
  have e := Int32.toNatClampNeg_ofInt_of_le (n := (j : Int)) (by omega) (by omega)
  rw [Int.toNat_natCast] at e
  have K := kk D H locs la hR hS hL
  have hv : vrv G (aI (zs j).toInt) = .int (zs j) := by show Value.int (Int32.ofInt (zs j).toInt) = _; rw [Int32.ofInt_toInt]
  rw [List.map_cons, hv] at K
  refine va_sld D.1 D.2.1 c4 c5 c6 hS (i := Int32.ofInt (j : Int)) (fun q => ?_) hd (by rw [e]; exact K)
  rcases q with q | q
  · rw [i32_0, i32_lt (by omega) i32_r0] at q; omega
  · rw [e] at q; omega
/-- a contract that may read the script -/
def vPreX (G : vGG) (As : List AV) (sh : Nat → Option Shp) (n : Nat) (M : Mem) (Ln : Nat) (zs : Nat → Int32) : Array Value → State → Prop := fun a U => vPre G As sh n M a U ∧ va_X (G.2.2.2 1003) Ln zs U U.heap ∧ G.2.2.2 1003 < U.heap.size ∧ ¬ vnew G (G.2.2.2 1003)
theorem vPreX.blind {As : List AV} : FrameBlind (vPreX G As sh n M Ln zs) := by
  intro a U g mk q
  exact ⟨vPre.blind a U g mk q.1, va_X.moved (u := U) (U := U.calling g mk a) (Vm.Alike.refl U.vm) q.2.1, q.2.2.1, q.2.2.2⟩
def CtX (l : Launch) (y : MethodName) (cy : ByteArray) (mL : Nat) (ret : Option FieldType) (rm : Room) (G : vGG) (As : List AV) (sh : Nat → Option Shp) (n : Nat) (M : Mem) (Ln : Nat) (zs : Nat → Int32) (post : vPost) : Prop :=
  Met l y (Cond.code y cy mL ret :: vGT) rm (vPreX G As sh n M Ln zs) (vQc G post) rm.cells rm.slots (vnew G)
theorem CtX.ofV {l : Launch} {y : MethodName} {cy : ByteArray} {mL : Nat} {ret : Option FieldType} {rm : Room} {G : vGG} {As : List AV} {sh : Nat → Option Shp} {n : Nat} {M : Mem} {post : vPost} {ls : List (Option AV)} (hLn : Ln ≤ 260)
    (hy : plainFor y = true) (hls : vent G As ++ List.replicate (mL - (vent G As).length) none = ls) (hlen : ls.length = mL)
    (body : ∀ x : vXX, xl x = l → xR x = rm → (xM x).locks = false → (xM x).sig.returnType = ret → sX x G Ln zs → ∀ Q : State → Prop, Q = MQ (xb x) (vQc G post) (xa x) (xs x) rm.cells rm.slots (vnew G) → V x Q G cy y.cls sh n 0 0 0 ls [] M) :
    CtX l y cy mL ret rm G As sh n M Ln zs post := by
  refine vMet_ofW (cc := cy) (maxL := mL) (ret := ret) hy rfl ?_
  intro p e s m args below meth c s₁ B hml hv
  obtain ⟨⟨rfl, hK, hZ, hB, hR⟩, hX, hXb, hXn⟩ := hv
  have hts := atoms_spec (ws := Cond.code y cy mL ret :: vGT) B.pre
  have hown : s.vm.findClass y.cls = some m.cls := findClass_of_methodNamed B.named
  have hle : (vent G As).length ≤ mL := by
    have := congrArg List.length hls
    rw [List.length_append, List.length_replicate] at this
    omega
  rw [lg_entry_eq]
  have hl := lv_entry (As.map (vrv G)) (n := mL) (by rw [vent_len]; exact hle)
  have hl2 : lv_has ((lg_sl (As.map (vrv G)) ++ List.replicate (mL - (lg_sl (As.map (vrv G))).length) Slot.unset).toArray) ls.length (vprs G 0 ls) := by
    refine ⟨by rw [hlen]; exact hl.1, hl.2.1, fun q hq => hl.2.2 q ?_⟩
    rw [← hls] at hq
    exact vent_args G As 0 _ (fun a ha => (List.mem_replicate.mp ha).2) q hq
  exact body (p, l, e, rm, s, m, _, below, meth, c) rfl rfl B.notSynchronized B.returns ⟨hX, hXb, hXn, hLn⟩ _ rfl ⟨B.exec, B.bytes, by rw [hlen]; exact hml, hown, fun w hw => hts w (List.mem_cons_of_mem _ hw), hK, hZ, hB⟩ s.heap [] _ hR va_S.rf hl2
variable {y : MethodName} {cy : ByteArray} {mL nA idx : Nat} {ret : Option FieldType} {rm : Room} {post : vPost} {As : List AV}
theorem v_callSX (D : sX x G Ln zs) (hc : CtX (xl x) y cy mL ret rm G As sh n M Ln zs post) (k0 : vK0 y cy mL ret nA) (kl : Cond.methodLink own idx y ∈ vGT) (ks : Cond.static y ∈ vGT) (hn : As.length = nA) (hR1 : vRm rm (xR x) mL cl sl) (hst : (st.map vcat).sum ≤ 8) (hd : decode cc pc = .ok (.invokestatic idx, 3))
    (kk : ∀ (r : Option AV) (sh' : Nat → Option Shp) (n' : Nat) (M' : Mem), post r sh' n' M' → V x Q G cc own sh' n' (cl + rm.cells) (sl + rm.slots) (pc + 3) ls (r.toList ++ st) M') : V x Q G cc own sh n cl sl pc ls (As.reverse ++ st) M := fun C H locs la hR hS hL => by
  obtain ⟨hd0, hcode, hini⟩ := k0
  obtain ⟨c4, c5, c6, c7⟩ := D
  refine v_back (a := (As.map (vrv G)).toArray) C hS hL ?_ kk
  have hpre : ∀ U : State, U.heap = H → (xs x).WarmedH U.vm → vPreX G As sh n M Ln zs (As.map (vrv G)).toArray U := fun U hU hW =>
    ⟨v_pre C hR hS U hU hW, by rw [hU]; exact (c4.kept (hS.2.1 _ c5 c6)).moved hW.alike, by rw [hU]; exact Nat.lt_of_lt_of_le c5 hS.1, c6⟩
  exact va_runS (Ts := vGT) (nL := ls.length) ⟨C.1, C.2.1, C.2.2.1, C.2.2.2.1, C.2.2.2.2.1⟩ hc (va_cwS nA C.2.2.2.2.1 (vgoodT (fun w hw => by
      rcases List.mem_append.mp hw with h | h
      · simp only [List.mem_cons, List.not_mem_nil, or_false] at h
        rcases h with rfl | rfl | rfl
        · exact kl
        · exact ks
        · exact hini
      · rcases List.mem_cons.mp h with rfl | h
        · exact hcode
        · exact h)) rfl rfl rfl hd0 hR1.1) ⟨vPreX.blind, hpre⟩ rfl (by rw [List.length_map]; exact hn) hL.1 (by simp) (lv_room (vroomS hst)) hd hR1.2
/-- the law itself: its room, its script -/
def lwC (x : vXX) (G : vGG) (Ln : Nat) (zs : Nat → Int32) : Prop := xR x = room_1 ∧ sX x G Ln zs
theorem lRm {f lo mL : Nat} (C : lwC x G Ln zs) (h1 : f + 1 ≤ 11) (h2 : 8 + (mL + 11) + lo ≤ 432) : vRm (rmo f lo) (xR x) mL 114 3014 := by
  rw [C.1]
  exact ⟨⟨h1, h2⟩, Nat.le_of_ble_eq_true rfl, Nat.le_of_ble_eq_true rfl⟩
variable {P : Option AV → Mem → Prop} {f lo : Nat} {v : AV} {Pm : Mem → Prop}
theorem lVq0 {b : Nat} (ci : Nat) (hc : Co (xl x) y cy mL ret (rmo f lo) G [aR (some b)] M (fun r M' => r = some v ∧ Pm M')) (k0 : vK0 y cy mL ret 0) (ki : Cond.instanceMethod y ∈ vGT ∧ Cond.selects y.cls y y ∈ vGT) (kl : Cond.methodLink own idx y ∈ vGT) (hs : SH b = some (.inl ci)) (hcl : (vwCl[ci]?).map (fun r => r.1) = some y.cls) (hR1 : vRm (rmo f lo) (xR x) mL 114 3014) (hd : decode cc pc = .ok (.invokevirtual idx, 3)) (hst : (st.map vcat).sum ≤ 8) (kk : ∀ M' : Mem, Pm M' → V x Q G cc own SH 114 114 3014 (pc + 3) ls (v :: st) M') : V x Q G cc own SH 114 114 3014 pc ls (aR (some b) :: st) M :=
  v_callV0 ci hc k0 kl ki.1 ki.2 hs hcl hR1 hst hd (fun r sh' n' M' h => by obtain ⟨rfl, rfl, rfl, h⟩ := h; exact kk M' h)
theorem lVv0 {b : Nat} (ci : Nat) (hc : Cv (xl x) y cy mL ret (rmo f lo) G [aR (some b)] M (some v) M1) (k0 : vK0 y cy mL ret 0) (ki : Cond.instanceMethod y ∈ vGT ∧ Cond.selects y.cls y y ∈ vGT) (kl : Cond.methodLink own idx y ∈ vGT) (hs : SH b = some (.inl ci)) (hcl : (vwCl[ci]?).map (fun r => r.1) = some y.cls) (hR1 : vRm (rmo f lo) (xR x) mL 114 3014) (hd : decode cc pc = .ok (.invokevirtual idx, 3)) (hst : (st.map vcat).sum ≤ 8) (kk : V x Q G cc own SH 114 114 3014 (pc + 3) ls (v :: st) M1) : V x Q G cc own SH 114 114 3014 pc ls (aR (some b) :: st) M :=
  v_callV0 ci hc k0 kl ki.1 ki.2 hs hcl hR1 hst hd (fun r sh' n' M' h => by obtain ⟨rfl, rfl, rfl, rfl⟩ := h; exact kk)
theorem lSq1 {a0 : AV} (hc : Co (xl x) y cy mL ret (rmo f lo) G [a0] M (fun r M' => r = some v ∧ Pm M')) (k0 : vK0 y cy mL ret 1) (ki : Cond.static y ∈ vGT) (kl : Cond.methodLink own idx y ∈ vGT) (hR1 : vRm (rmo f lo) (xR x) mL 114 3014) (hd : decode cc pc = .ok (.invokestatic idx, 3)) (hst : (st.map vcat).sum ≤ 8) (kk : ∀ M' : Mem, Pm M' → V x Q G cc own SH 114 114 3014 (pc + 3) ls (v :: st) M') : V x Q G cc own SH 114 114 3014 pc ls (a0 :: st) M :=
  v_callS (As := [a0]) hc k0 kl ki rfl hR1 hst hd (fun r sh' n' M' h => by obtain ⟨rfl, rfl, rfl, h⟩ := h; exact kk M' h)
theorem lSm1 {a0 : AV} (hc : Co (xl x) y cy mL ret (rmo f lo) G [a0] M (fun r M' => r = none ∧ Pm M')) (k0 : vK0 y cy mL ret 1) (ki : Cond.static y ∈ vGT) (kl : Cond.methodLink own idx y ∈ vGT) (hR1 : vRm (rmo f lo) (xR x) mL 114 3014) (hd : decode cc pc = .ok (.invokestatic idx, 3)) (hst : (st.map vcat).sum ≤ 8) (kk : ∀ M' : Mem, Pm M' → V x Q G cc own SH 114 114 3014 (pc + 3) ls (st) M') : V x Q G cc own SH 114 114 3014 pc ls (a0 :: st) M :=
  v_callS (As := [a0]) hc k0 kl ki rfl hR1 hst hd (fun r sh' n' M' h => by obtain ⟨rfl, rfl, rfl, h⟩ := h; exact kk M' h)
theorem lVq1 {a0 : AV} {b : Nat} (ci : Nat) (hc : Co (xl x) y cy mL ret (rmo f lo) G [aR (some b), a0] M (fun r M' => r = some v ∧ Pm M')) (k0 : vK0 y cy mL ret 1) (ki : Cond.instanceMethod y ∈ vGT ∧ Cond.selects y.cls y y ∈ vGT) (kl : Cond.methodLink own idx y ∈ vGT) (hs : SH b = some (.inl ci)) (hcl : (vwCl[ci]?).map (fun r => r.1) = some y.cls) (hR1 : vRm (rmo f lo) (xR x) mL 114 3014) (hd : decode cc pc = .ok (.invokevirtual idx, 3)) (hst : (st.map vcat).sum ≤ 8) (kk : ∀ M' : Mem, Pm M' → V x Q G cc own SH 114 114 3014 (pc + 3) ls (v :: st) M') : V x Q G cc own SH 114 114 3014 pc ls (a0 :: aR (some b) :: st) M :=
  v_callV1 ci hc k0 kl ki.1 ki.2 hs hcl hR1 hst hd (fun r sh' n' M' h => by obtain ⟨rfl, rfl, rfl, h⟩ := h; exact kk M' h)
theorem lVv1 {a0 : AV} {b : Nat} (ci : Nat) (hc : Cv (xl x) y cy mL ret (rmo f lo) G [aR (some b), a0] M (some v) M1) (k0 : vK0 y cy mL ret 1) (ki : Cond.instanceMethod y ∈ vGT ∧ Cond.selects y.cls y y ∈ vGT) (kl : Cond.methodLink own idx y ∈ vGT) (hs : SH b = some (.inl ci)) (hcl : (vwCl[ci]?).map (fun r => r.1) = some y.cls) (hR1 : vRm (rmo f lo) (xR x) mL 114 3014) (hd : decode cc pc = .ok (.invokevirtual idx, 3)) (hst : (st.map vcat).sum ≤ 8) (kk : V x Q G cc own SH 114 114 3014 (pc + 3) ls (v :: st) M1) : V x Q G cc own SH 114 114 3014 pc ls (a0 :: aR (some b) :: st) M :=
  v_callV1 ci hc k0 kl ki.1 ki.2 hs hcl hR1 hst hd (fun r sh' n' M' h => by obtain ⟨rfl, rfl, rfl, rfl⟩ := h; exact kk)
theorem lSq2 {a0 a1 : AV} (hc : Co (xl x) y cy mL ret (rmo f lo) G [a0, a1] M (fun r M' => r = some v ∧ Pm M')) (k0 : vK0 y cy mL ret 2) (ki : Cond.static y ∈ vGT) (kl : Cond.methodLink own idx y ∈ vGT) (hR1 : vRm (rmo f lo) (xR x) mL 114 3014) (hd : decode cc pc = .ok (.invokestatic idx, 3)) (hst : (st.map vcat).sum ≤ 8) (kk : ∀ M' : Mem, Pm M' → V x Q G cc own SH 114 114 3014 (pc + 3) ls (v :: st) M') : V x Q G cc own SH 114 114 3014 pc ls (a1 :: a0 :: st) M :=
  v_callS (As := [a0, a1]) hc k0 kl ki rfl hR1 hst hd (fun r sh' n' M' h => by obtain ⟨rfl, rfl, rfl, h⟩ := h; exact kk M' h)
theorem lSm2 {a0 a1 : AV} (hc : Co (xl x) y cy mL ret (rmo f lo) G [a0, a1] M (fun r M' => r = none ∧ Pm M')) (k0 : vK0 y cy mL ret 2) (ki : Cond.static y ∈ vGT) (kl : Cond.methodLink own idx y ∈ vGT) (hR1 : vRm (rmo f lo) (xR x) mL 114 3014) (hd : decode cc pc = .ok (.invokestatic idx, 3)) (hst : (st.map vcat).sum ≤ 8) (kk : ∀ M' : Mem, Pm M' → V x Q G cc own SH 114 114 3014 (pc + 3) ls (st) M') : V x Q G cc own SH 114 114 3014 pc ls (a1 :: a0 :: st) M :=
  v_callS (As := [a0, a1]) hc k0 kl ki rfl hR1 hst hd (fun r sh' n' M' h => by obtain ⟨rfl, rfl, rfl, h⟩ := h; exact kk M' h)
theorem lVq2 {a0 a1 : AV} {b : Nat} (ci : Nat) (hc : Co (xl x) y cy mL ret (rmo f lo) G [aR (some b), a0, a1] M (fun r M' => r = some v ∧ Pm M')) (k0 : vK0 y cy mL ret 2) (ki : Cond.instanceMethod y ∈ vGT ∧ Cond.selects y.cls y y ∈ vGT) (kl : Cond.methodLink own idx y ∈ vGT) (hs : SH b = some (.inl ci)) (hcl : (vwCl[ci]?).map (fun r => r.1) = some y.cls) (hR1 : vRm (rmo f lo) (xR x) mL 114 3014) (hd : decode cc pc = .ok (.invokevirtual idx, 3)) (hst : (st.map vcat).sum ≤ 8) (kk : ∀ M' : Mem, Pm M' → V x Q G cc own SH 114 114 3014 (pc + 3) ls (v :: st) M') : V x Q G cc own SH 114 114 3014 pc ls (a1 :: a0 :: aR (some b) :: st) M :=
  v_callV2 ci hc k0 kl ki.1 ki.2 hs hcl hR1 hst hd (fun r sh' n' M' h => by obtain ⟨rfl, rfl, rfl, h⟩ := h; exact kk M' h)
theorem lVv2 {a0 a1 : AV} {b : Nat} (ci : Nat) (hc : Cv (xl x) y cy mL ret (rmo f lo) G [aR (some b), a0, a1] M (some v) M1) (k0 : vK0 y cy mL ret 2) (ki : Cond.instanceMethod y ∈ vGT ∧ Cond.selects y.cls y y ∈ vGT) (kl : Cond.methodLink own idx y ∈ vGT) (hs : SH b = some (.inl ci)) (hcl : (vwCl[ci]?).map (fun r => r.1) = some y.cls) (hR1 : vRm (rmo f lo) (xR x) mL 114 3014) (hd : decode cc pc = .ok (.invokevirtual idx, 3)) (hst : (st.map vcat).sum ≤ 8) (kk : V x Q G cc own SH 114 114 3014 (pc + 3) ls (v :: st) M1) : V x Q G cc own SH 114 114 3014 pc ls (a1 :: a0 :: aR (some b) :: st) M :=
  v_callV2 ci hc k0 kl ki.1 ki.2 hs hcl hR1 hst hd (fun r sh' n' M' h => by obtain ⟨rfl, rfl, rfl, rfl⟩ := h; exact kk)
theorem lSq3 {a0 a1 a2 : AV} (hc : Co (xl x) y cy mL ret (rmo f lo) G [a0, a1, a2] M (fun r M' => r = some v ∧ Pm M')) (k0 : vK0 y cy mL ret 3) (ki : Cond.static y ∈ vGT) (kl : Cond.methodLink own idx y ∈ vGT) (hR1 : vRm (rmo f lo) (xR x) mL 114 3014) (hd : decode cc pc = .ok (.invokestatic idx, 3)) (hst : (st.map vcat).sum ≤ 8) (kk : ∀ M' : Mem, Pm M' → V x Q G cc own SH 114 114 3014 (pc + 3) ls (v :: st) M') : V x Q G cc own SH 114 114 3014 pc ls (a2 :: a1 :: a0 :: st) M :=
  v_callS (As := [a0, a1, a2]) hc k0 kl ki rfl hR1 hst hd (fun r sh' n' M' h => by obtain ⟨rfl, rfl, rfl, h⟩ := h; exact kk M' h)
theorem lSm3 {a0 a1 a2 : AV} (hc : Co (xl x) y cy mL ret (rmo f lo) G [a0, a1, a2] M (fun r M' => r = none ∧ Pm M')) (k0 : vK0 y cy mL ret 3) (ki : Cond.static y ∈ vGT) (kl : Cond.methodLink own idx y ∈ vGT) (hR1 : vRm (rmo f lo) (xR x) mL 114 3014) (hd : decode cc pc = .ok (.invokestatic idx, 3)) (hst : (st.map vcat).sum ≤ 8) (kk : ∀ M' : Mem, Pm M' → V x Q G cc own SH 114 114 3014 (pc + 3) ls (st) M') : V x Q G cc own SH 114 114 3014 pc ls (a2 :: a1 :: a0 :: st) M :=
  v_callS (As := [a0, a1, a2]) hc k0 kl ki rfl hR1 hst hd (fun r sh' n' M' h => by obtain ⟨rfl, rfl, rfl, h⟩ := h; exact kk M' h)
theorem lVq3 {a0 a1 a2 : AV} {b : Nat} (ci : Nat) (hc : Co (xl x) y cy mL ret (rmo f lo) G [aR (some b), a0, a1, a2] M (fun r M' => r = some v ∧ Pm M')) (k0 : vK0 y cy mL ret 3) (ki : Cond.instanceMethod y ∈ vGT ∧ Cond.selects y.cls y y ∈ vGT) (kl : Cond.methodLink own idx y ∈ vGT) (hs : SH b = some (.inl ci)) (hcl : (vwCl[ci]?).map (fun r => r.1) = some y.cls) (hR1 : vRm (rmo f lo) (xR x) mL 114 3014) (hd : decode cc pc = .ok (.invokevirtual idx, 3)) (hst : (st.map vcat).sum ≤ 8) (kk : ∀ M' : Mem, Pm M' → V x Q G cc own SH 114 114 3014 (pc + 3) ls (v :: st) M') : V x Q G cc own SH 114 114 3014 pc ls (a2 :: a1 :: a0 :: aR (some b) :: st) M :=
  v_callV3 ci hc k0 kl ki.1 ki.2 hs hcl hR1 hst hd (fun r sh' n' M' h => by obtain ⟨rfl, rfl, rfl, h⟩ := h; exact kk M' h)
theorem lVv3 {a0 a1 a2 : AV} {b : Nat} (ci : Nat) (hc : Cv (xl x) y cy mL ret (rmo f lo) G [aR (some b), a0, a1, a2] M (some v) M1) (k0 : vK0 y cy mL ret 3) (ki : Cond.instanceMethod y ∈ vGT ∧ Cond.selects y.cls y y ∈ vGT) (kl : Cond.methodLink own idx y ∈ vGT) (hs : SH b = some (.inl ci)) (hcl : (vwCl[ci]?).map (fun r => r.1) = some y.cls) (hR1 : vRm (rmo f lo) (xR x) mL 114 3014) (hd : decode cc pc = .ok (.invokevirtual idx, 3)) (hst : (st.map vcat).sum ≤ 8) (kk : V x Q G cc own SH 114 114 3014 (pc + 3) ls (v :: st) M1) : V x Q G cc own SH 114 114 3014 pc ls (a2 :: a1 :: a0 :: aR (some b) :: st) M :=
  v_callV3 ci hc k0 kl ki.1 ki.2 hs hcl hR1 hst hd (fun r sh' n' M' h => by obtain ⟨rfl, rfl, rfl, rfl⟩ := h; exact kk)
theorem lVq4 {a0 a1 a2 a3 : AV} {b : Nat} (ci : Nat) (hc : Co (xl x) y cy mL ret (rmo f lo) G [aR (some b), a0, a1, a2, a3] M (fun r M' => r = some v ∧ Pm M')) (k0 : vK0 y cy mL ret 4) (ki : Cond.instanceMethod y ∈ vGT ∧ Cond.selects y.cls y y ∈ vGT) (kl : Cond.methodLink own idx y ∈ vGT) (hs : SH b = some (.inl ci)) (hcl : (vwCl[ci]?).map (fun r => r.1) = some y.cls) (hR1 : vRm (rmo f lo) (xR x) mL 114 3014) (hd : decode cc pc = .ok (.invokevirtual idx, 3)) (hst : (st.map vcat).sum ≤ 8) (kk : ∀ M' : Mem, Pm M' → V x Q G cc own SH 114 114 3014 (pc + 3) ls (v :: st) M') : V x Q G cc own SH 114 114 3014 pc ls (a3 :: a2 :: a1 :: a0 :: aR (some b) :: st) M :=
  v_callV4 ci hc k0 kl ki.1 ki.2 hs hcl hR1 hst hd (fun r sh' n' M' h => by obtain ⟨rfl, rfl, rfl, h⟩ := h; exact kk M' h)
theorem lVv4 {a0 a1 a2 a3 : AV} {b : Nat} (ci : Nat) (hc : Cv (xl x) y cy mL ret (rmo f lo) G [aR (some b), a0, a1, a2, a3] M (some v) M1) (k0 : vK0 y cy mL ret 4) (ki : Cond.instanceMethod y ∈ vGT ∧ Cond.selects y.cls y y ∈ vGT) (kl : Cond.methodLink own idx y ∈ vGT) (hs : SH b = some (.inl ci)) (hcl : (vwCl[ci]?).map (fun r => r.1) = some y.cls) (hR1 : vRm (rmo f lo) (xR x) mL 114 3014) (hd : decode cc pc = .ok (.invokevirtual idx, 3)) (hst : (st.map vcat).sum ≤ 8) (kk : V x Q G cc own SH 114 114 3014 (pc + 3) ls (v :: st) M1) : V x Q G cc own SH 114 114 3014 pc ls (a3 :: a2 :: a1 :: a0 :: aR (some b) :: st) M :=
  v_callV4 ci hc k0 kl ki.1 ki.2 hs hcl hR1 hst hd (fun r sh' n' M' h => by obtain ⟨rfl, rfl, rfl, rfl⟩ := h; exact kk)
theorem lSq6 {a0 a1 a2 a3 a4 a5 : AV} (hc : Co (xl x) y cy mL ret (rmo f lo) G [a0, a1, a2, a3, a4, a5] M (fun r M' => r = some v ∧ Pm M')) (k0 : vK0 y cy mL ret 6) (ki : Cond.static y ∈ vGT) (kl : Cond.methodLink own idx y ∈ vGT) (hR1 : vRm (rmo f lo) (xR x) mL 114 3014) (hd : decode cc pc = .ok (.invokestatic idx, 3)) (hst : (st.map vcat).sum ≤ 8) (kk : ∀ M' : Mem, Pm M' → V x Q G cc own SH 114 114 3014 (pc + 3) ls (v :: st) M') : V x Q G cc own SH 114 114 3014 pc ls (a5 :: a4 :: a3 :: a2 :: a1 :: a0 :: st) M :=
  v_callS (As := [a0, a1, a2, a3, a4, a5]) hc k0 kl ki rfl hR1 hst hd (fun r sh' n' M' h => by obtain ⟨rfl, rfl, rfl, h⟩ := h; exact kk M' h)
theorem lSm6 {a0 a1 a2 a3 a4 a5 : AV} (hc : Co (xl x) y cy mL ret (rmo f lo) G [a0, a1, a2, a3, a4, a5] M (fun r M' => r = none ∧ Pm M')) (k0 : vK0 y cy mL ret 6) (ki : Cond.static y ∈ vGT) (kl : Cond.methodLink own idx y ∈ vGT) (hR1 : vRm (rmo f lo) (xR x) mL 114 3014) (hd : decode cc pc = .ok (.invokestatic idx, 3)) (hst : (st.map vcat).sum ≤ 8) (kk : ∀ M' : Mem, Pm M' → V x Q G cc own SH 114 114 3014 (pc + 3) ls (st) M') : V x Q G cc own SH 114 114 3014 pc ls (a5 :: a4 :: a3 :: a2 :: a1 :: a0 :: st) M :=
  v_callS (As := [a0, a1, a2, a3, a4, a5]) hc k0 kl ki rfl hR1 hst hd (fun r sh' n' M' h => by obtain ⟨rfl, rfl, rfl, h⟩ := h; exact kk M' h)
theorem lSx2 {a0 a1 : AV} {g : Nat → Prop} (C : lwC x G Ln zs) (hc : CtX (xl x) y cy mL ret (rmo f lo) G [a0, a1] SH 114 M Ln zs (vP (fun r M' => (∃ z : Nat, g z ∧ r = some (aI (z : Int))) ∧ M' = M))) (k0 : vK0 y cy mL ret 2) (ki : Cond.static y ∈ vGT) (kl : Cond.methodLink own idx y ∈ vGT) (hR1 : vRm (rmo f lo) (xR x) mL 114 3014) (hd : decode cc pc = .ok (.invokestatic idx, 3)) (hst : (st.map vcat).sum ≤ 8) (kk : ∀ z : Nat, g z → V x Q G cc own SH 114 114 3014 (pc + 3) ls (aI (z : Int) :: st) M) : V x Q G cc own SH 114 114 3014 pc ls (a1 :: a0 :: st) M :=
  v_callSX (As := [a0, a1]) C.2 hc k0 kl ki rfl hR1 hst hd (fun r sh' n' M' h => by obtain ⟨rfl, rfl, ⟨z, hz, rfl⟩, rfl⟩ := h; exact kk z hz)
end LR
/-! numbers -/
theorem vand_top (a : Int) : 0 ≤ vand a 2147483647 ∧ vand a 2147483647 ≤ 2147483647 := by
  have h2 := vand_R a 2147483647
  refine ⟨?_, h2.2⟩
  have e : ((Int32.ofInt a &&& Int32.ofInt 2147483647).toBitVec).msb = false := by
    rw [Int32.toBitVec_and, BitVec.msb_and, show (Int32.ofInt 2147483647).toBitVec.msb = false by decide, Bool.and_false]
  unfold vand
  rw [← Int32.toInt_toBitVec, BitVec.toInt_eq_msb_cond, e]
  simp
theorem vand_dn {a : Int} (b : Int) (h0 : 0 ≤ a) (h1 : a ≤ 2147483647) : 0 ≤ vand a b ∧ vand a b ≤ a := by
  have e1 : (Int32.ofInt a).toBitVec.toNat = a.toNat := by rw [nu_of h0, pk_tn (by omega)]
  have e : ((Int32.ofInt a &&& Int32.ofInt b).toBitVec).toNat ≤ a.toNat := by
    rw [Int32.toBitVec_and, BitVec.toNat_and, e1]
    exact Nat.and_le_left
  have e2 : ((Int32.ofInt a &&& Int32.ofInt b).toBitVec).toInt = ((((Int32.ofInt a &&& Int32.ofInt b).toBitVec).toNat : Nat) : Int) := BitVec.toInt_eq_toNat_of_lt (by omega)
  unfold vand
  rw [← Int32.toInt_toBitVec, e2]
  omega
theorem nu_and7 (y : Nat) (h : y ≤ 2147483647) : vand (y : Int) 7 = ((y % 8 : Nat) : Int) := by
  rw [nu_and (by omega) (by omega) (by decide) (by decide), Int.toNat_natCast]
  exact congrArg _ (Nat.and_two_pow_sub_one_eq_mod y 3)
theorem nu_shrN (y k : Nat) (h : y ≤ 2147483647) (hk : k < 32) : vshr (y : Int) (k : Int) = ((y / 2 ^ k : Nat) : Int) := by
  rw [nu_shr (by omega) (by omega) hk, Int.toNat_natCast]
