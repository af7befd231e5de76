/-! ===== contracts, calls, returns ===== -/
abbrev vPost : Type := Option AV → (Nat → Option Shp) → Nat → Mem → Prop
def vPre (G : vGG) (As : List AV) (sh : Nat → Option Shp) (n : Nat) (M : Mem) : Array Value → State → Prop := va_Pc (As.map (vrv G)) (fun U => vKF G U ∧ vSZ G U U.heap ∧ G.2.2.1 ≤ U.heap.size ∧ vRel G U sh n M U.heap)
def vQc (G : vGG) (post : vPost) : Array Value → State → Outcome → State → Prop := fun _ st o t =>
  (∃ (r : Option AV) (sh' : Nat → Option Shp) (n' : Nat) (M' : Mem), o = .returned (r.map (vrv G)) ∧ post r sh' n' M' ∧ vRel G t sh' n' M' t.heap) ∧ va_F (vnew G) st t
/-- a method's contract: from the memory M, with these arguments, it returns, and its answer and the memory behind it are as post says -/
def Ct (l : Launch) (y : MethodName) (cy : ByteArray) (mL : Nat) (ret : Option FieldType) (rm : Room) (G : vGG) (As : List AV) (sh : Nat → Option Shp) (n : Nat) (M : Mem) (post : vPost) : Prop :=
  Met l y (Cond.code y cy mL ret :: vGT) rm (vPre G As sh n M) (vQc G post) rm.cells rm.slots (vnew G)
theorem vKF.moved {G : vGG} {s U : State} (hW : s.WarmedH U.vm) (h : vKF G s) : vKF G U := by
  refine ⟨va_K.moved hW.alike h.1, fun w hw => ?_, h.2.2.moved hW.alike⟩
  have h1 := h.2.1 w hw
  have h2 : vnest w = true := (List.mem_filter.mp hw).2
  cases w <;> first | exact va_Nw.warmF hW h1 | exact va_Nw.warmM hW h1 | simp [vnest] at h2
theorem vSZ.moved {G : vGG} {s U : State} {H : Heap} (hvm : s.vm.Alike U.vm) (h : vSZ G s H) : vSZ G U H := ⟨h.1.moved hvm, h.2.1.moved hvm, h.2.2.moved hvm⟩
theorem vSZ.kept {G : vGG} {s : State} {H H1 : Heap} (hq : ∀ a : Nat, a < H.size → ¬ vnew G a → H1[a]? = H[a]?) (h : vSZ G s H) : vSZ G s H1 := ⟨h.1.kept hq, h.2.1.kept hq, h.2.2.kept hq⟩
theorem vPre.blind {G : vGG} {As : List AV} {sh : Nat → Option Shp} {n : Nat} {M : Mem} : FrameBlind (vPre G As sh n M) := by
  intro a U g mk q
  obtain ⟨q0, q1, q2, q3, q4⟩ := q
  have hal : U.vm.Alike (U.calling g mk a).vm := Vm.Alike.refl U.vm
  refine ⟨q0, ⟨va_K.moved (u := U) (U := U.calling g mk a) (Vm.Alike.refl U.vm) q1.1, fun w hw => ?_, q1.2.2.moved (U := U.calling g mk a) (Vm.Alike.refl U.vm)⟩, q2.moved (U := U.calling g mk a) (Vm.Alike.refl U.vm), q3, q4.moved (U := U.calling g mk a) (Vm.Alike.refl U.vm)⟩
  have h2 : vnest w = true := (List.mem_filter.mp hw).2
  refine va_Nw.same (u := U) (U := U.calling g mk a) ?_ rfl (q1.2.1 w hw)
  cases w <;> first | rfl | simp [vnest] at h2
theorem vgood {y0 : MethodName} {c0 : ByteArray} {m0 : Nat} {r0 : Option FieldType} {ws : List Cond} (h : ∀ w ∈ ws, w ∈ vGT) : GoodIn (Cond.code y0 c0 m0 r0 :: vGT) ws := fun w hw => ⟨List.mem_cons_of_mem _ (h w hw), good_of_word (List.mem_filter.mp (h w hw)).2⟩
theorem vgoodT {ws : List Cond} (h : ∀ w ∈ ws, w ∈ vGT) : GoodIn vGT ws := fun w hw => ⟨h w hw, good_of_word (List.mem_filter.mp (h w hw)).2⟩
def vent (G : vGG) : List AV → List (Option AV)
  | [] => []
  | .inr (.inl z) :: r => some (aL z) :: none :: vent G r
  | a :: r => some a :: vent G r
theorem vent_args (G : vGG) : ∀ (As : List AV) (k : Nat) (r : List (Option AV)), (∀ a ∈ r, a = none) → ∀ q ∈ vprs G k (vent G As ++ r), q ∈ lv_args k (As.map (vrv G))
  | [], k, r, hr, q, hq => by
    exfalso
    obtain ⟨i, v, h, -⟩ := vprs_mem.mp hq
    have := hr _ (List.mem_of_getElem? (by simpa [vent] using h))
    cases this
  | .inl z :: As, k, r, hr, q, hq => by
    simp only [vent, List.cons_append, vprs, List.mem_cons] at hq
    simp only [List.map_cons, lv_args, List.mem_cons]
    rcases hq with h | h
    · exact Or.inl h
    · exact Or.inr (vent_args G As (k + 1) r hr q h)
  | .inr (.inl z) :: As, k, r, hr, q, hq => by
    simp only [vent, List.cons_append, vprs, List.mem_cons] at hq
    simp only [List.map_cons, lv_args, List.mem_cons]
    rcases hq with h | h
    · exact Or.inl h
    · exact Or.inr (vent_args G As (k + 2) r hr q h)
  | .inr (.inr o) :: As, k, r, hr, q, hq => by
    simp only [vent, List.cons_append, vprs, List.mem_cons] at hq
    simp only [List.map_cons, lv_args, List.mem_cons]
    rcases hq with h | h
    · exact Or.inl h
    · have hc : ¬ (vrv G (.inr (.inr o))).category = 2 := by rw [vrv_cat]; exact (by decide : ¬ (1 : Nat) = 2)
      rw [if_neg hc]
      exact Or.inr (vent_args G As (k + 1) r hr q h)
theorem lg_sl1 {v : Value} (h : v.category = 1) (vs : List Value) : lg_sl (v :: vs) = .val v :: lg_sl vs := by
  simp [lg_sl, h]
theorem lg_sl2 {v : Value} (h : v.category = 2) (vs : List Value) : lg_sl (v :: vs) = .val v :: .second :: lg_sl vs := by
  simp [lg_sl, h]
theorem vent_len (G : vGG) : ∀ As : List AV, (lg_sl (As.map (vrv G))).length = (vent G As).length
  | [] => rfl
  | .inl z :: As => by
    rw [List.map_cons, lg_sl1 (by rw [vrv_cat]; rfl), List.length_cons, vent_len G As]
    rfl
  | .inr (.inl z) :: As => by
    rw [List.map_cons, lg_sl2 (by rw [vrv_cat]; rfl), List.length_cons, List.length_cons, vent_len G As]
    rfl
  | .inr (.inr o) :: As => by
    rw [List.map_cons, lg_sl1 (by rw [vrv_cat]; rfl), List.length_cons, vent_len G As]
    rfl
theorem vMet_ofW {l : Launch} {y : MethodName} {ws ws' : List Cond} {rm : Room} {Pc : Array Value → State → Prop} {Qc : Array Value → State → Outcome → State → Prop} {mc ms : Nat} {free : Addr → Prop} {cc : ByteArray} {maxL : Nat} {ret : Option FieldType}
    (hy : plainFor y = true) (hw : ws = Cond.code y cc maxL ret :: ws')
    (body : ∀ p e s m args below meth c s₁, BodyLoose p l y (headSpec ws rm) cc maxL ret e s m args below meth c s₁ → c.maxLocals = maxL → Pc args s →
      W p l e (headSpec ws rm).room s m args below meth c s.heap [] 0 0 (MQ below Qc args s mc ms free) (entryFrame m args maxL)) : Met l y ws rm Pc Qc mc ms free := by
  refine MetFree.of_bodySF (code := cc) (maxLocals := maxL) (ret := ret) hy ?_ ?_
  · intro args s m h hn
    obtain ⟨meth, c, h1, h2, h3, h4, h5, h6, -, -⟩ := Cond.code_spec hn (atoms_spec (ws := ws) h _ (by rw [hw]; exact List.mem_cons_self))
    exact ⟨meth, c, h1, h2, h3, h4, h5, h6⟩
  · intro p e s m args below meth c s₁ B hml hP _
    have hh0 : s₁.heap = s.heap := by rw [B.state]; rfl
    obtain ⟨t, a1, o, b1, b2, b3⟩ := body p e s m args below meth c s₁ B hml hP s₁ hh0 (Stand.of_body B)
    exact ⟨t, o, a1, b1, b2, ⟨b3.1, b3.2⟩⟩
/-- a contract out of a walk from the method's entry -/
theorem Ct.ofV {l : Launch} {y : MethodName} {cy : ByteArray} {mL : Nat} {ret : Option FieldType} {rm : Room} {G : vGG} {As : List AV} {sh : Nat → Option Shp} {n : Nat} {M : Mem} {post : vPost} {ls : List (Option AV)}
    (hy : plainFor y = true) (hls : vent G As ++ List.replicate (mL - (vent G As).length) none = ls) (hlen : ls.length = mL)
    (body : ∀ x : vXX, xl x = l → xR x = rm → (xM x).locks = false → (xM x).sig.returnType = ret → (xM x).name = y.name → ∀ Q : State → Prop, Q = MQ (xb x) (vQc G post) (xa x) (xs x) rm.cells rm.slots (vnew G) → V x Q G cy y.cls sh n 0 0 0 ls [] M) :
    Ct l y cy mL ret rm G As sh n M post := by
  refine vMet_ofW (cc := cy) (maxL := mL) (ret := ret) hy rfl ?_
  intro p e s m args below meth c s₁ B hml hv
  obtain ⟨rfl, hK, hZ, hB, hR⟩ := hv
  have hts := atoms_spec (ws := Cond.code y cy mL ret :: vGT) B.pre
  have hown : s.vm.findClass y.cls = some m.cls := findClass_of_methodNamed B.named
  have hnm : meth.name = y.name := (name_of_methodNamed B.named B.method).1
  have hle : (vent G As).length ≤ mL := by
    have := congrArg List.length hls
    rw [List.length_append, List.length_replicate] at this
    omega
  rw [lg_entry_eq]
  have hl := lv_entry (As.map (vrv G)) (n := mL) (by rw [vent_len]; exact hle)
  have hl2 : lv_has ((lg_sl (As.map (vrv G)) ++ List.replicate (mL - (lg_sl (As.map (vrv G))).length) Slot.unset).toArray) ls.length (vprs G 0 ls) := by
    refine ⟨by rw [hlen]; exact hl.1, hl.2.1, fun q hq => hl.2.2 q ?_⟩
    rw [← hls] at hq
    exact vent_args G As 0 _ (fun a ha => (List.mem_replicate.mp ha).2) q hq
  exact body (p, l, e, rm, s, m, _, below, meth, c) rfl rfl B.notSynchronized B.returns hnm _ rfl ⟨B.exec, B.bytes, by rw [hlen]; exact hml, hown, fun w hw => hts w (List.mem_cons_of_mem _ hw), hK, hZ, hB⟩ s.heap [] _ hR va_S.rf hl2
section VC
variable {x : vXX} {Q : State → Prop} {G : vGG} {cc : ByteArray} {own : String} {sh : Nat → Option Shp} {n cl sl pc : Nat} {ls : List (Option AV)} {st : List AV} {M : Mem} {post : vPost} {kc ks : Nat}
theorem v_iret {z : Int} (hQ : Q = MQ (xb x) (vQc G post) (xa x) (xs x) kc ks (vnew G)) (hc : cl ≤ kc) (hsl : sl ≤ ks) (hk : (xM x).locks = false) (hr : (xM x).sig.returnType = some .int) (hd : decode cc pc = .ok (.ireturn, 1)) (hp : post (some (aI z)) sh n M) :
    V x Q G cc own sh n cl sl pc ls [aI z] M := fun C H locs la hR hS hL => by
  subst hQ
  refine W.widen hc hsl ?_
  exact W.iret (v := Int32.ofInt z) C.1 C.2.1 hr (fun t ht hW => ⟨⟨some (aI z), sh, n, M, rfl, hp, by rw [ht]; exact hR.moved hW.alike⟩, hS.F ht⟩) hS.2.2 hd hk
theorem v_lret {z : Int} (hQ : Q = MQ (xb x) (vQc G post) (xa x) (xs x) kc ks (vnew G)) (hc : cl ≤ kc) (hsl : sl ≤ ks) (hk : (xM x).locks = false) (hr : (xM x).sig.returnType = some .long) (hd : decode cc pc = .ok (.lreturn, 1)) (hp : post (some (aL z)) sh n M) :
    V x Q G cc own sh n cl sl pc ls [aL z] M := fun C H locs la hR hS hL => by
  subst hQ
  refine W.widen hc hsl ?_
  exact W.lret (v := Int64.ofInt z) C.1 C.2.1 hr (fun t ht hW => ⟨⟨some (aL z), sh, n, M, rfl, hp, by rw [ht]; exact hR.moved hW.alike⟩, hS.F ht⟩) hS.2.2 hd hk
theorem v_ret (hQ : Q = MQ (xb x) (vQc G post) (xa x) (xs x) kc ks (vnew G)) (hc : cl ≤ kc) (hsl : sl ≤ ks) (hk : (xM x).locks = false) (hr : (xM x).sig.returnType = none) (hd : decode cc pc = .ok (.return_, 1)) (hp : post none sh n M) :
    V x Q G cc own sh n cl sl pc ls [] M := fun C H locs la hR hS hL => by
  subst hQ
  refine W.widen hc hsl ?_
  exact W.vret C.1 C.2.1 hr (fun t ht hW => ⟨⟨none, sh, n, M, rfl, hp, by rw [ht]; exact hR.moved hW.alike⟩, hS.F ht⟩) hS.2.2 hd hk
theorem v_zret {z : Int} (hz : z = 0 ∨ z = 1) (hQ : Q = MQ (xb x) (vQc G post) (xa x) (xs x) kc ks (vnew G)) (hc : cl ≤ kc) (hsl : sl ≤ ks) (hk : (xM x).locks = false) (hr : (xM x).sig.returnType = some .boolean) (hd : decode cc pc = .ok (.ireturn, 1)) (hp : post (some (aI z)) sh n M) :
    V x Q G cc own sh n cl sl pc ls [aI z] M := fun C H locs la hR hS hL => by
  subst hQ
  refine W.widen hc hsl ?_
  exact W.zret (v := Int32.ofInt z) C.1 C.2.1 hr (vbool hz).1 (fun t ht hW => ⟨⟨some (aI z), sh, n, M, rfl, hp, by rw [ht]; exact hR.moved hW.alike⟩, hS.F ht⟩) hS.2.2 hd hk
end VC
