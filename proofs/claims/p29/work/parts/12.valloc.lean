/-! ===== making cells, static arrays, arraycopy ===== -/
def vz (M : Mem) (i : Nat) : Mem := (fun a b => if a = i then 0 else M.1 a b, fun a b => if a = i then none else M.2 a b)
def vsh (sh : Nat → Option Shp) (i : Nat) (s : Shp) : Nat → Option Shp := fun j => if j = i then some s else sh j
theorem vdef0 : ∀ k, k < 20 → defaultValue (vtyF 0 k) = if vrefF 0 k = true then .null else .int (Int32.ofInt 0) := by decide +kernel
theorem vdef1 : ∀ k, k < 7 → defaultValue (vtyF 1 k) = if vrefF 1 k = true then .null else .int (Int32.ofInt 0) := by decide +kernel
theorem vdef2 : ∀ k, k < 6 → defaultValue (vtyF 2 k) = if vrefF 2 k = true then .null else .int (Int32.ofInt 0) := by decide +kernel
theorem vdef3 : ∀ k, k < 9 → defaultValue (vtyF 3 k) = if vrefF 3 k = true then .null else .int (Int32.ofInt 0) := by decide +kernel
theorem vdefs {ci : Nat} {r : vw_C} (h : vwCl[ci]? = some r) : ∀ k, k < r.2.2 → defaultValue (vtyF ci k) = if vrefF ci k = true then .null else .int (Int32.ofInt 0) := by
  match ci, h with
  | 0, h => cases h; exact vdef0
  | 1, h => cases h; exact vdef1
  | 2, h => cases h; exact vdef2
  | 3, h => cases h; exact vdef3
  | n + 4, h => simp at h
theorem vRel.push {G : vGG} {U : State} {sh : Nat → Option Shp} {n : Nat} {M : Mem} {H H' : Heap} {s : Shp} (h : vRel G U sh n M H) (hn : n < 1000) (hz : H'.size = H.size + 1) (oq : ∀ q, q < H.size → H'[q]? = H[q]?) (hc : vCell G U (vz M n) H' n s) : vRel G U (vsh sh n s) (n + 1) (vz M n) H' := by
  obtain ⟨a1, a2, a3, a4, a5⟩ := h
  refine ⟨by omega, by omega, fun i hi h => ?_, fun i h1 h2 => ?_, fun i x hx => ?_⟩
  · refine a3 i hi ?_
    simp only [vsh] at h
    rwa [if_neg (by omega)] at h
  · simp only [vsh]
    rw [if_neg (by omega)]
    exact a4 i (by omega) h2
  · simp only [vsh] at hx
    by_cases hi : i = n
    · subst hi
      rw [if_pos rfl] at hx
      cases hx
      exact hc
    · rw [if_neg hi] at hx
      have hlt : vad G i < H.size := by
        by_cases h2 : i < 1000
        · rw [vad_lo h2]
          by_cases h3 : n ≤ i
          · rw [a4 i h3 h2] at hx
            cases hx
          · omega
        · have := a3 i (by omega) (by rw [hx]; simp)
          omega
      exact (a5 i x hx).keep (oq _ hlt) (fun k => if_neg hi) (fun k => if_neg hi)
section VA
variable {x : vXX} {Q : State → Prop} {G : vGG} {cc : ByteArray} {own : String} {sh : Nat → Option Shp} {n cl sl pc : Nat} {ls : List (Option AV)} {st : List AV} {M : Mem}
theorem vS_push {s : State} {H H' : Heap} {locs : List Loc} (hS : va_S (vnew G) s.heap H locs) (hz : H'.size = H.size + 1) (oq : ∀ q, q < H.size → H'[q]? = H[q]?) : va_S (vnew G) s.heap H' locs :=
  ⟨Nat.le_trans hS.1 (by omega), fun q h1 h2 => (oq q (Nat.lt_of_lt_of_le h1 hS.1)).trans (hS.2.1 q h1 h2), hS.2.2⟩
theorem v_new {idx ci : Nat} {r : vw_C} (hr : vwCl[ci]? = some r) (h1 : Cond.classLink own idx r.1 ∈ vGT) (h2 : Cond.instantiable r.1 r.2.2 ∈ vGT) (h3 : Cond.initialized r.1 ∈ vGT) (hn : n < 1000) (hcl : cl + 1 ≤ (xR x).cells) (hsl : sl + r.2.2 ≤ (xR x).slots) (hd : decode cc pc = .ok (.new idx, 3))
    (kk : V x Q G cc own (vsh sh n (.inl ci)) (n + 1) (cl + 1) (sl + r.2.2) (pc + 3) ls (aR (some n) :: st) (vz M n)) : V x Q G cc own sh n cl sl pc ls st M := fun C H locs la hR hS hL => by
  have hts := C.2.2.2.2.1
  obtain ⟨hcw, hty, -⟩ := vcls hr
  have hKn := C.2.2.2.2.2.1.1.1 ci r hr
  refine W.newcK C.1 C.2.1 C.2.2.2.1 (hts _ h1) (hts _ h2) (hts _ h3) rfl hd hcl hsl hKn.2.1 (h := vad G n) (by rw [vad_lo hn]; exact hR.1) fun H' kC hkC e1 z1 o1 => ?_
  have hsz : vad G n = H.size := by rw [vad_lo hn]; exact hR.1.symm
  rw [hsz] at z1 o1
  refine kk C H' locs la (hR.push hn z1 o1 ⟨hn, r, hr, (u_born (vtyF ci) hts hcw hKn hkC e1 hty).to (fun k hk => ?_)⟩) (vS_push hS z1 o1) hL
  rw [vdefs hr k hk]
  by_cases h : vrefF ci k = true
  · simp [vfv, h, vz, va_rf]
  · simp [vfv, h, vz]
theorem v_newarr {at_ : ArrayType} {kd len : Nat} {z : Int} (hkd : newarray.typeOf at_ = vkt kd) (hk2 : kd < 2) (h1 : Cond.arrayClass (newarray.typeOf at_) ∈ vGT) (hz : z = (len : Int)) (hlen : len ≤ 10000) (hn : n < 1000) (hcl : cl + 1 ≤ (xR x).cells) (hsl : sl + len ≤ (xR x).slots) (hd : decode cc pc = .ok (.newarray at_, 2))
    (kk : V x Q G cc own (vsh sh n (.inr (kd, len))) (n + 1) (cl + 1) (sl + len) (pc + 2) ls (aR (some n) :: st) (vz M n)) : V x Q G cc own sh n cl sl pc ls (aI z :: st) M := fun C H locs la hR hS hL => by
  subst hz
  have hts := C.2.2.2.2.1
  have hcb : componentBytes (newarray.typeOf at_) ≤ 4 := by
    rw [hkd]
    match kd, hk2 with
    | 0, _ => decide
    | 1, _ => decide
  have e0 := (Int32.toNatClampNeg_ofInt_of_le (n := (len : Int)) (by omega) (by omega)).trans (Int.toNat_natCast len)
  have hsz : vad G n = H.size := by rw [vad_lo hn]; exact hR.1.symm
  refine va_newaK C.1 C.2.1 (hts _ h1) rfl hd (n := Int32.ofInt (len : Int)) (N := len) (rest := st.map (vrv G)) rfl (by rw [i32_0, i32_lt (by omega) i32_r0]; omega) e0 (by have := Nat.mul_le_mul hlen hcb; omega) hcl hsl (h := vad G n) hsz.symm fun H' cA e1 z1 o1 hAr hNm => ?_
  rw [hsz] at z1 o1
  have hcA : cA = G.2.1 kd := by
    rw [hkd] at hNm
    match kd, hk2 with
    | 0, _ =>
      have h3 := (C.2.2.2.2.2.1.1.2 0 _ rfl).2
      exact Option.some.inj (hNm.symm.trans h3)
    | 1, _ =>
      have h3 := (C.2.2.2.2.2.1.1.2 1 _ rfl).2
      exact Option.some.inj (hNm.symm.trans h3)
  refine kk C H' locs la (hR.push hn z1 o1 ⟨fun _ => ?_, fun h => by omega⟩) (vS_push hS z1 o1) hL
  rw [e1, hcA, hkd]
  congr 2
  funext j
  match kd, hk2 with
  | 0, _ => simp [vav, vz, vkt, defaultValue]
  | 1, _ => simp [vav, vz, vkt, defaultValue]
theorem v_anewarr {idx len : Nat} {z : Int} (h1 : Cond.classLink own idx RX0 ∈ vGT) (hz : z = (len : Int)) (hlen : len ≤ 10000) (hn : n < 1000) (hcl : cl + 1 ≤ (xR x).cells) (hsl : sl + len ≤ (xR x).slots) (hd : decode cc pc = .ok (.anewarray idx, 3))
    (kk : V x Q G cc own (vsh sh n (.inr (2, len))) (n + 1) (cl + 1) (sl + len) (pc + 3) ls (aR (some n) :: st) (vz M n)) : V x Q G cc own sh n cl sl pc ls (aI z :: st) M := fun C H locs la hR hS hL => by
  subst hz
  have hts := C.2.2.2.2.1
  have e0 := (Int32.toNatClampNeg_ofInt_of_le (n := (len : Int)) (by omega) (by omega)).trans (Int.toNat_natCast len)
  have hsz : vad G n = H.size := by rw [vad_lo hn]; exact hR.1.symm
  refine W.anew C.1 C.2.1 C.2.2.2.1 (hts _ h1) (va_AO.use C.2.2.2.2.2.1.2.2) rfl hd (n := Int32.ofInt (len : Int)) (rest := st.map (vrv G)) rfl (by rw [i32_0, i32_lt (by omega) i32_r0]; omega) (by rw [e0]; omega) hcl (by rw [e0]; exact hsl) fun cA kA comp f1 f2 f3 f4 => ?_
  rw [e0]
  generalize hH1 : H.push ({ cls := cA, slots := Array.replicate len .null, vm := .none } : Cell) = H1
  have z1 : H1.size = H.size + 1 := by rw [← hH1, Array.size_push]
  have e1 : H1[H.size]? = some (arrV cA len (fun _ => .null)) := by rw [← hH1, Array.getElem?_push_size, ← arrV_new]
  have o1 : ∀ q : Nat, q < H.size → H1[q]? = H[q]? := fun q hq => by rw [← hH1, Array.getElem?_push, if_neg (Nat.ne_of_lt hq)]
  have hcA : cA = G.2.1 2 := by
    obtain ⟨kA', comp', -, -, -, h3⟩ := (C.2.2.2.2.2.1.1.2 2 _ rfl).2
    exact Option.some.inj (f1.symm.trans h3)
  have K := kk C H1 locs la (hR.push hn z1 o1 ⟨fun _ => ?_, fun h => by omega⟩) (vS_push hS z1 o1) hL
  · rw [List.map_cons, show vrv G (aR (some n)) = .ref H.size from by simp [vrv, va_rf, hsz]] at K
    exact K
  · rw [hsz, e1, hcA]
    congr 2
    funext j
    simp [vav, vz, va_rf]
theorem v_gets {idx : Nat} {nm : String} {i : Nat} (hl : Cond.fieldLink own idx "OrganWind" nm "[I" ∈ vGT) (hz : ∀ U H, vSZ G U H → va_Z "OrganWind" nm "[I" (.ref (vad G i)) (vnew G) U H) (hd : decode cc pc = .ok (.getstatic idx, 3))
    (kk : V x Q G cc own sh n cl sl (pc + 3) ls (aR (some i) :: st) M) : V x Q G cc own sh n cl sl pc ls st M := fun C H locs la hR hS hL =>
  va_gets C.1 C.2.1 (hz _ _ C.2.2.2.2.2.2.1) hS C.2.2.2.1 (C.2.2.2.2.1 _ hl) (fun _ h => h) hd (kk C H locs la hR hS hL)
theorem v_getsN {idx : Nat} {nm host : String} {i : Nat} (hl : Cond.fieldLinkNest own idx "OrganWind" nm "[I" host ∈ vNW) (hz : ∀ U H, vSZ G U H → va_Z "OrganWind" nm "[I" (.ref (vad G i)) (vnew G) U H) (hd : decode cc pc = .ok (.getstatic idx, 3))
    (kk : V x Q G cc own sh n cl sl (pc + 3) ls (aR (some i) :: st) M) : V x Q G cc own sh n cl sl pc ls st M := fun C H locs la hR hS hL =>
  va_getsN C.1 C.2.1 (hz _ _ C.2.2.2.2.2.2.1) hS C.2.2.2.1 (va_Nw.use rfl (C.2.2.2.2.2.1.2.1 _ hl)) (fun _ h => h) hd (kk C H locs la hR hS hL)
theorem v_objInit {idx i : Nat} (hl : Cond.methodLink own idx objectInit ∈ vGT) (hi : Cond.instanceMethod objectInit ∈ vGT) (hc : Cond.code objectInit ⟨#[0xb1]⟩ 1 none ∈ vGT) (hst : st = []) (hf : 1 ≤ (xR x).frames) (hlo : 12 ≤ (xR x).locals) (hd : decode cc pc = .ok (.invokespecial idx, 3))
    (kk : V x Q G cc own sh n cl sl (pc + 3) ls st M) : V x Q G cc own sh n cl sl pc ls (aR (some i) :: st) M := fun C H locs la hR hS hL => by
  have hts := C.2.2.2.2.1
  subst hst
  exact W.objInit C.1 C.2.1 C.2.2.2.1 (hts _ hl) (hts _ hi) (hts _ hc) rfl (by rw [C.2.2.1]; exact hL.1) rfl hd hf (by show 2 * 0 + 0 + 12 ≤ _; omega) (kk C H locs la hR hS hL)
def vcp (M : Mem) (a0 sp a1 dp k : Nat) : Mem := (fun a b => if a = a1 ∧ dp ≤ b ∧ b < dp + k then M.1 a0 (sp + (b - dp)) else M.1 a b, M.2)
theorem v_acopy {idx a0 a1 n0 n1 : Nat} {zs zd zn : Int} (sp dp k : Nat) (h1 : Cond.methodLink own idx arraycopyName ∈ vGT) (h2 : Cond.native arraycopyName ∈ vGT) (h3 : Cond.static arraycopyName ∈ vGT) (h4 : Cond.initialized "java/lang/System" ∈ vGT)
    (hs0 : sh a0 = some (.inr (0, n0))) (hs1 : sh a1 = some (.inr (0, n1))) (ha1 : a1 < 1000) (hzs : zs = (sp : Int)) (hzd : zd = (dp : Int)) (hzn : zn = (k : Int)) (b0 : sp + k ≤ n0) (b1 : dp + k ≤ n1) (bb : n0 ≤ 100000 ∧ n1 ≤ 100000) (hst : st = []) (hf : 1 ≤ (xR x).frames) (hlo : 18 ≤ (xR x).locals) (hd : decode cc pc = .ok (.invokestatic idx, 3))
    (kk : V x Q G cc own sh n cl sl (pc + 3) ls st (vcp M a0 sp a1 dp k)) : V x Q G cc own sh n cl sl pc ls (aI zn :: aI zd :: aR (some a1) :: aI zs :: aR (some a0) :: st) M := fun C H locs la hR hS hL => by
  subst hst hzs hzd hzn
  have hts := C.2.2.2.2.1
  have es : ∀ z : Nat, z ≤ 100000 → (Int32.ofInt (z : Int)).toNatClampNeg = z ∧ (Int32.ofInt (z : Int)).toInt = (z : Int) ∧ ¬ Int32.ofInt (z : Int) < 0 := fun z hz =>
    ⟨(Int32.toNatClampNeg_ofInt_of_le (n := (z : Int)) (by omega) (by omega)).trans (Int.toNat_natCast z), Int32.toInt_ofInt_of_le (by omega) (by omega), by rw [i32_0, i32_lt (by omega) i32_r0]; omega⟩
  obtain ⟨s1, s2, s3⟩ := es sp (by omega)
  obtain ⟨d1, d2, d3⟩ := es dp (by omega)
  obtain ⟨k1, k2, k3⟩ := es k (by omega)
  obtain ⟨cs, c1, c2, c3, c4, c5⟩ := vArr hR C.2.2.2.2.2.1 (by omega) hs0
  have e1 := (hR.2.2.2.2 a1 _ hs1).1 ha1
  obtain ⟨hso, kS, hkS, cmS, hkkS⟩ := c2
  obtain ⟨-, kD, hkD, cmD, hkkD⟩ := (C.2.2.2.2.2.1.1.2 0 _ rfl).1 n1 (vav G 0 M a1)
  have hA : vnew G (vad G a1) := by show G.2.2.1 ≤ vad G a1; rw [vad_lo ha1]; omega
  intro T hT X
  obtain ⟨vm', X', step⟩ := X.arraycopy C.1 C.2.2.2.1 (hts _ h1) (hts _ h2) (hts _ h3) (hts _ h4) (src := vad G a0) (dst := vad G a1) (cs := cs) (cd := arrV (G.2.1 0) n1 (vav G 0 M a1)) (srcPos := Int32.ofInt (sp : Int)) (destPos := Int32.ofInt (dp : Int)) (n := Int32.ofInt (k : Int)) (by rw [hT]; exact c1) (by rw [hT]; exact e1)
    hso (fun _ h => by cases h) c3 (fun h => by cases h) hkS hkD hkkS hkkD (show ((refKind FieldType.int != refKind FieldType.int) || (!refKind FieldType.int && FieldType.int != FieldType.int)) = false by decide) s3 d3 k3
    (by have c41 := c4.1; rw [s2, k2]; omega)
    (by rw [d2, k2, arrV_size]; omega)
    (fun vm₁ _ i hi => by
      rw [k1] at hi
      rw [s1, Array.getD_eq_getD_getElem?, c5 _ (by omega)]
      exact ⟨rfl, trivial⟩)
    (g := F0 (xm x) pc la (([aI (k : Int), aI (dp : Int), aR (some a1), aI (sp : Int), aR (some a0)] : List AV).map (vrv G))) rfl (by rw [C.2.2.1]; exact hL.1) (rest := []) rfl (by rw [C.2.1]; exact hd) hf (by show 2 * 0 + 0 + (7 + 11) ≤ _; omega)
  have e2 : copied cs (arrV (G.2.1 0) n1 (vav G 0 M a1)) (Int32.ofInt (sp : Int)) (Int32.ofInt (dp : Int)) (Int32.ofInt (k : Int)) = arrV (G.2.1 0) n1 (vav G 0 (vcp M a0 sp a1 dp k) a1) := by
    have f1 : cs.stretch sp k = (arrV (G.2.1 0) n0 (fun j => Value.int (Int32.ofInt (M.1 a0 j)))).stretch sp k := by
      unfold Cell.stretch
      apply List.map_congr_left
      intro i hi
      have hi' := List.mem_range.mp hi
      rw [Array.getD_eq_getD_getElem?, Array.getD_eq_getD_getElem?, c5 _ (by omega), arrV_read _ _ (by omega)]
      simp [vav]
    show (arrV (G.2.1 0) n1 (vav G 0 M a1)).storeRun (Int32.ofInt (dp : Int)).toNatClampNeg (cs.stretch (Int32.ofInt (sp : Int)).toNatClampNeg (Int32.ofInt (k : Int)).toNatClampNeg) = _
    rw [d1, s1, k1, f1, show vav G 0 M a1 = (fun j => (fun z => Value.int (Int32.ofInt z)) (M.1 a1 j)) from by funext j; simp [vav], va_copied (fun z => Value.int (Int32.ofInt z)) (G.2.1 0) (G.2.1 0) (fun j => M.1 a0 j) (fun j => M.1 a1 j) b0]
    congr 1
    funext j
    simp only [vav, vcp, va_cpy]
    simp
  rw [e2] at X' step
  have hl : vad G a1 < H.size := (Array.getElem?_eq_some_iff.mp e1).1
  generalize hCd : arrV (G.2.1 0) n1 (vav G 0 (vcp M a0 sp a1 dp k) a1) = cd at X' step
  have hheap : ((T.setVm vm').setCell (vad G a1) cd).heap = H.setIfInBounds (vad G a1) cd := by rw [← hT]; rfl
  have oq : ∀ q : Nat, q ≠ vad G a1 → (H.setIfInBounds (vad G a1) cd)[q]? = H[q]? := fun q hq => by simp [Array.getElem?_setIfInBounds, Ne.symm hq]
  have hz : (H.setIfInBounds (vad G a1) cd).size = H.size := by simp
  obtain ⟨t, g1, g2⟩ := kk C _ _ la (hR.put ha1 hz oq (fun j hj b => if_neg (fun q => hj q.1)) (fun _ _ _ => rfl) (fun y hy => by
      rw [hs1] at hy
      cases hy
      exact ⟨fun _ => by
        show (H.setIfInBounds (vad G a1) cd)[vad G a1]? = _
        rw [← hCd]
        simp [Array.getElem?_setIfInBounds, hl], fun h => by omega⟩)) ⟨by rw [hz]; exact hS.1, fun q g1 g2 => by
      rw [oq q (fun e => g2 (by rw [e]; exact hA))]
      exact hS.2.1 q g1 g2, fun q hq => by
      rcases List.mem_append.mp hq with h | h
      · exact hS.2.2 q h
      · obtain ⟨z, -, hz⟩ := List.mem_map.mp h
        rw [← hz]
        exact hA⟩ hL _ hheap X'
  exact ⟨t, step t g1, g2⟩
end VA
