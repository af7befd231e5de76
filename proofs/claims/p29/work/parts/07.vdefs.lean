/-! ===== the abstract machine: ids for cells, whole numbers for ints, one memory for all ===== -/
abbrev AV : Type := Int ⊕ (Int ⊕ Option Nat)
abbrev aI (z : Int) : AV := Sum.inl z
abbrev aL (z : Int) : AV := Sum.inr (Sum.inl z)
abbrev aR (o : Option Nat) : AV := Sum.inr (Sum.inr o)
abbrev Shp : Type := Nat ⊕ (Nat × Nat)
abbrev Mem : Type := (Nat → Nat → Int) × (Nat → Nat → Option Nat)
abbrev vGG : Type := va_G × (Nat → ClassId) × Nat × (Nat → Nat)
def vad (G : vGG) (i : Nat) : Nat := if i < 1000 then G.2.2.1 + i else G.2.2.2 i
def vrv (G : vGG) : AV → Value
  | .inl z => .int (Int32.ofInt z)
  | .inr (.inl z) => .long (Int64.ofInt z)
  | .inr (.inr o) => va_rf (o.map (vad G))
def vcat : AV → Nat
  | .inr (.inl _) => 2
  | _ => 1
theorem vrv_cat (G : vGG) (v : AV) : (vrv G v).category = vcat v := by
  rcases v with z | z | o
  · rfl
  · rfl
  · cases o <;> rfl
abbrev R32 (z : Int) : Prop := -2147483648 ≤ z ∧ z ≤ 2147483647
/-- which fields hold references -/
def vrefF : Nat → Nat → Bool
  | 0, k => decide (k < 9)
  | 1, k => decide (k < 1)
  | 2, k => decide (k < 6)
  | 3, k => decide (k < 8)
  | _, _ => false
def vtyF : Nat → Nat → FieldType
  | 0, k => tyX0 k
  | 1, k => tyX1 k
  | 2, k => tyX2 k
  | _, k => tyX3 k
def vfv (G : vGG) (ci : Nat) (M : Mem) (i k : Nat) : Value := if vrefF ci k = true then va_rf ((M.2 i k).map (vad G)) else .int (Int32.ofInt (M.1 i k))
def vkt : Nat → FieldType
  | 0 => .int
  | 1 => .boolean
  | _ => .object RX0
def vav (G : vGG) (kd : Nat) (M : Mem) (i j : Nat) : Value := if kd = 2 then va_rf ((M.2 i j).map (vad G)) else .int (Int32.ofInt (M.1 i j))
def vCell (G : vGG) (U : State) (M : Mem) (H : Heap) (i : Nat) : Shp → Prop
  | .inl ci => i < 1000 ∧ ∃ r : vw_C, vwCl[ci]? = some r ∧ t_OB (vad G i) (G.1.1 ci) r.2.2 (G.1.2 ci) H (vfv G ci M i)
  | .inr a => (i < 1000 → H[vad G i]? = some (arrV (G.2.1 a.1) a.2 (vav G a.1 M i))) ∧ (1000 ≤ i → a.1 = 0 ∧ ∃ cell : Cell, H[vad G i]? = some cell ∧ U.isArrayOf cell .int ∧ cell.vm ≠ .unknown ∧ (a.2 ≤ cell.slots.size ∧ cell.slots.size.toInt32 = Int32.ofInt (a.2 : Int)) ∧ ∀ j, j < a.2 → cell.slots[j]? = some (.int (Int32.ofInt (M.1 i j))))
def vRel (G : vGG) (U : State) (sh : Nat → Option Shp) (n : Nat) (M : Mem) (H : Heap) : Prop :=
  H.size = G.2.2.1 + n ∧ n ≤ 1000 ∧ (∀ i, 1000 ≤ i → sh i ≠ none → vad G i < G.2.2.1) ∧ (∀ i, n ≤ i → i < 1000 → sh i = none) ∧ ∀ i x, sh i = some x → vCell G U M H i x
theorem vCell.keep {G : vGG} {U : State} {M M' : Mem} {H H' : Heap} {i : Nat} {x : Shp} (h : vCell G U M H i x) (hq : H'[vad G i]? = H[vad G i]?) (h1 : ∀ k, M'.1 i k = M.1 i k) (h2 : ∀ k, M'.2 i k = M.2 i k) : vCell G U M' H' i x := by
  rcases x with ci | a
  · obtain ⟨hi, r, hr, ho⟩ := h
    refine ⟨hi, r, hr, (ho.kept hq).to (fun k _ => ?_)⟩
    simp only [vfv, h1, h2]
  · refine ⟨fun hi => ?_, fun hi => ?_⟩
    · rw [hq, h.1 hi]
      congr 2
      funext j
      simp only [vav, h1, h2]
    · obtain ⟨hk, cell, c1, c2, c3, c4, c5⟩ := h.2 hi
      exact ⟨hk, cell, by rw [hq]; exact c1, c2, c3, c4, fun j hj => by rw [h1]; exact c5 j hj⟩
theorem vCell.moved {G : vGG} {u U : State} (hvm : u.vm.Alike U.vm) {M : Mem} {H : Heap} {i : Nat} {x : Shp} (h : vCell G u M H i x) : vCell G U M H i x := by
  rcases x with ci | a
  · exact h
  · refine ⟨h.1, fun hi => ?_⟩
    obtain ⟨hk, cell, c1, c2, c3⟩ := h.2 hi
    exact ⟨hk, cell, c1, State.isArrayOf_alike hvm c2, c3⟩
theorem vRel.moved {G : vGG} {u U : State} (hvm : u.vm.Alike U.vm) {sh : Nat → Option Shp} {n : Nat} {M : Mem} {H : Heap} (h : vRel G u sh n M H) : vRel G U sh n M H :=
  ⟨h.1, h.2.1, h.2.2.1, h.2.2.2.1, fun i x hx => (h.2.2.2.2 i x hx).moved hvm⟩
theorem vad_lo {G : vGG} {i : Nat} (h : i < 1000) : vad G i = G.2.2.1 + i := if_pos h
/-- a write at one new cell -/
theorem vRel.put {G : vGG} {U : State} {sh : Nat → Option Shp} {n : Nat} {M M' : Mem} {H H' : Heap} (h : vRel G U sh n M H) {i : Nat} (hi : i < 1000) (hz : H'.size = H.size) (oq : ∀ q, q ≠ vad G i → H'[q]? = H[q]?)
    (h1 : ∀ j, j ≠ i → ∀ k, M'.1 j k = M.1 j k) (h2 : ∀ j, j ≠ i → ∀ k, M'.2 j k = M.2 j k) (hc : ∀ x, sh i = some x → vCell G U M' H' i x) : vRel G U sh n M' H' := by
  obtain ⟨a1, a2, a3, a4, a5⟩ := h
  refine ⟨hz.trans a1, a2, a3, a4, fun j x hx => ?_⟩
  by_cases hj : j = i
  · subst hj; exact hc x hx
  · refine (a5 j x hx).keep (oq _ ?_) (h1 j hj) (h2 j hj)
    rw [vad_lo hi]
    by_cases hj2 : j < 1000
    · rw [vad_lo hj2]; omega
    · have := a3 j (by omega) (by rw [hx]; simp)
      omega
def vprs (G : vGG) : Nat → List (Option AV) → List (Nat × Value)
  | _, [] => []
  | k, none :: r => vprs G (k + 1) r
  | k, some v :: r => (k, vrv G v) :: vprs G (k + 1) r
theorem vprs_mem {G : vGG} {q : Nat × Value} : ∀ {ls : List (Option AV)} {k : Nat}, q ∈ vprs G k ls ↔ ∃ i v, ls[i]? = some (some v) ∧ q = (k + i, vrv G v)
  | [], k => by simp [vprs]
  | none :: r, k => by
    rw [vprs, vprs_mem (ls := r)]
    constructor
    · rintro ⟨i, v, h, e⟩
      exact ⟨i + 1, v, by simpa using h, by rw [e]; congr 1; omega⟩
    · rintro ⟨i, v, h, e⟩
      cases i with
      | zero => simp at h
      | succ i => exact ⟨i, v, by simpa using h, by rw [e]; congr 1; omega⟩
  | some w :: r, k => by
    rw [vprs, List.mem_cons, vprs_mem (ls := r)]
    constructor
    · rintro (e | ⟨i, v, h, e⟩)
      · exact ⟨0, w, by simp, by simpa using e⟩
      · exact ⟨i + 1, v, by simpa using h, by rw [e]; congr 1; omega⟩
    · rintro ⟨i, v, h, e⟩
      cases i with
      | zero =>
        simp at h
        subst h
        exact Or.inl (by simpa using e)
      | succ i => exact Or.inr ⟨i, v, by simpa using h, by rw [e]; congr 1; omega⟩
theorem vls_at {G : vGG} {la : Array Slot} {nL : Nat} {ls : List (Option AV)} (h : lv_has la nL (vprs G 0 ls)) {i : Nat} {v : AV} (hi : ls[i]? = some (some v)) : la[i]? = some (.val (vrv G v)) := by
  have := h.2.2 (i, vrv G v) (vprs_mem.mpr ⟨i, v, hi, by simp⟩)
  exact this
/-- the local before place i holds no long -/
def vnl1 : Option AV → Bool
  | some (.inr (.inl _)) => false
  | _ => true
def vnl (ls : List (Option AV)) : Nat → Bool
  | 0 => true
  | j + 1 => match ls[j]? with
    | some a => vnl1 a
    | none => true
theorem vls_set {G : vGG} {la : Array Slot} {ls : List (Option AV)} {i : Nat} {v : AV} (hn : vnl ls i = true) (h : lv_has la ls.length ((i, vrv G v) :: (vprs G 0 ls).filter (fun q => !(q.1 == i) && !(q.1 + 1 == i && q.2.category == 2)))) :
    lv_has la (ls.set i (some v)).length (vprs G 0 (ls.set i (some v))) := by
  refine ⟨by rw [List.length_set]; exact h.1, h.2.1, fun q hq => h.2.2 q ?_⟩
  obtain ⟨j, w, hj, rfl⟩ := vprs_mem.mp hq
  simp only [Nat.zero_add]
  by_cases hji : i = j
  · subst hji
    have hl : i < ls.length := by
      have := (List.getElem?_eq_some_iff.mp hj).1
      simpa using this
    rw [List.getElem?_set_self hl] at hj
    cases hj
    exact List.mem_cons_self
  · rw [List.getElem?_set_ne hji] at hj
    refine List.mem_cons_of_mem _ (List.mem_filter.mpr ⟨vprs_mem.mpr ⟨j, w, hj, by simp⟩, ?_⟩)
    have h1 : (j == i) = false := by simp; omega
    simp only [h1, Bool.not_false, Bool.true_and, Bool.not_eq_true', Bool.and_eq_false_iff, beq_eq_false_iff_ne]
    by_cases h2 : j + 1 = i
    · right
      subst h2
      simp only [vnl, hj] at hn
      rw [vrv_cat]
      rcases w with z | z | o
      · simp [vcat]
      · simp [vnl1] at hn
      · simp [vcat]
    · left; exact h2
abbrev vXX : Type := Program × Launch × Env × Room × State × MethodId × Array Value × List Frame × Method × Code
abbrev xp (x : vXX) := x.1
abbrev xl (x : vXX) := x.2.1
abbrev xe (x : vXX) := x.2.2.1
abbrev xR (x : vXX) := x.2.2.2.1
abbrev xs (x : vXX) := x.2.2.2.2.1
abbrev xm (x : vXX) := x.2.2.2.2.2.1
abbrev xa (x : vXX) := x.2.2.2.2.2.2.1
abbrev xb (x : vXX) := x.2.2.2.2.2.2.2.1
abbrev xM (x : vXX) := x.2.2.2.2.2.2.2.2.1
abbrev xc (x : vXX) := x.2.2.2.2.2.2.2.2.2
def vnest : Cond → Bool
  | .fieldLinkNest _ _ _ _ _ _ => true
  | .methodLinkNest _ _ _ _ => true
  | _ => false
def vGT : List Cond := lw_tbl.filter goodWord
def vNW : List Cond := lw_tbl.filter vnest
abbrev vtys (G : vGG) : List (ClassId × FieldType) := [(G.2.1 0, .int), (G.2.1 1, .boolean), (G.2.1 2, .object RX0)]
def vKF (G : vGG) (U : State) : Prop := va_K G.1 vwCl (vtys G) U ∧ (∀ w ∈ vNW, va_Nw w U) ∧ va_AO RX0 U
abbrev vnew (G : vGG) : Nat → Prop := fun q => G.2.2.1 ≤ q
def vSZ (G : vGG) (U : State) (H : Heap) : Prop := va_Z "OrganWind" "FIRST_SETTING" "[I" (.ref (vad G 1000)) (vnew G) U H ∧ va_Z "OrganWind" "LEAST_SETTING" "[I" (.ref (vad G 1001)) (vnew G) U H ∧ va_Z "OrganWind" "MOST_SETTING" "[I" (.ref (vad G 1002)) (vnew G) U H
def vCX (x : vXX) (G : vGG) (cc : ByteArray) (own : String) (nL : Nat) : Prop :=
  (xp x).tables.exec = Jvm.exec ∧ (xc x).code = cc ∧ (xc x).maxLocals = nL ∧ (xs x).vm.findClass own = some (xm x).cls ∧ (∀ w ∈ vGT, w.before (xa x) (xs x) = true) ∧ vKF G (xs x) ∧ vSZ G (xs x) (xs x).heap ∧ G.2.2.1 ≤ (xs x).heap.size
/-- from here on, whatever the cells are that hold the memory M, the machine comes to a state with Q -/
def V (x : vXX) (Q : State → Prop) (G : vGG) (cc : ByteArray) (own : String) (sh : Nat → Option Shp) (n cl sl : Nat) (pc : Nat) (ls : List (Option AV)) (st : List AV) (M : Mem) : Prop :=
  vCX x G cc own ls.length → ∀ (H : Heap) (locs : List Loc) (la : Array Slot), vRel G (xs x) sh n M H → va_S (vnew G) (xs x).heap H locs → lv_has la ls.length (vprs G 0 ls) →
    W (xp x) (xl x) (xe x) (xR x) (xs x) (xm x) (xa x) (xb x) (xM x) (xc x) H locs cl sl Q (F0 (xm x) pc la (st.map (vrv G)))
