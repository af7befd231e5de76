/-! ===== making the cells: the shape so far, rules, what is known of a new object (by hand) ===== -/
def shU (n i : Nat) : Option Shp := if i < n ∨ 1000 ≤ i then SH i else none
theorem shU_at {n i : Nat} {s : Shp} (h : SH i = some s) (hi : i < n ∨ 1000 ≤ i) : shU n i = some s := by unfold shU; rw [if_pos hi]; exact h
theorem shU_push {n : Nat} {s : Shp} (h : SH n = some s) (hn : n < 1000) : vsh (shU n) n s = shU (n + 1) := by
  funext i
  unfold vsh shU
  by_cases hi : i = n
  · subst hi
    rw [if_pos rfl, if_pos (by omega), h]
  · rw [if_neg hi]
    by_cases h2 : i < n ∨ 1000 ≤ i
    · rw [if_pos h2, if_pos (by omega)]
    · rw [if_neg h2, if_neg (by omega)]
theorem moSh_4 (k : Nat) : moSh (k + 4) = none := rfl
theorem shU_114 : shU 114 = SH := by
  funext i
  unfold shU
  by_cases h : i < 114 ∨ 1000 ≤ i
  · rw [if_pos h]
  · rw [if_neg h]
    unfold SH
    rw [if_neg (by omega), if_neg (by omega), if_neg (by omega), if_neg (by omega), if_neg (by omega), if_neg (by omega), if_neg (by omega), if_neg (by omega), if_neg (by omega), if_neg (by omega), if_pos (by omega)]
    obtain ⟨k, hk⟩ : ∃ k, i - 110 = k + 4 := ⟨i - 114, by omega⟩
    rw [hk, moSh_4]
abbrev vU (x : vXX) (Q : State → Prop) (G : vGG) (cc : ByteArray) (own : String) (n cl sl : Nat) (pc : Nat) (ls : List (Option AV)) (st : List AV) (M : Mem) : Prop := V x Q G cc own (shU n) n cl sl pc ls st M
section VU
variable {x : vXX} {Q : State → Prop} {G : vGG} {cc : ByteArray} {own : String} {n cl sl pc : Nat} {ls : List (Option AV)} {st : List AV} {M : Mem}
theorem u_newI {len : Nat} {z : Int} (hS : SH n = some (.inr (0, len))) (hz : z = (len : Int)) (hlen : len ≤ 10000) (hn : n < 1000) (hcl : cl + 1 ≤ (xR x).cells) (hsl : sl + len ≤ (xR x).slots) (hd : decode cc pc = .ok (.newarray .int, 2))
    (kk : vU x Q G cc own (n + 1) (cl + 1) (sl + len) (pc + 2) ls (aR (some n) :: st) (vz M n)) : vU x Q G cc own n cl sl pc ls (aI z :: st) M :=
  v_newarr (at_ := .int) (kd := 0) rfl (by decide) la_I hz hlen hn hcl hsl hd (by rw [shU_push hS hn]; exact kk)
theorem u_newZ {len : Nat} {z : Int} (hS : SH n = some (.inr (1, len))) (hz : z = (len : Int)) (hlen : len ≤ 10000) (hn : n < 1000) (hcl : cl + 1 ≤ (xR x).cells) (hsl : sl + len ≤ (xR x).slots) (hd : decode cc pc = .ok (.newarray .boolean, 2))
    (kk : vU x Q G cc own (n + 1) (cl + 1) (sl + len) (pc + 2) ls (aR (some n) :: st) (vz M n)) : vU x Q G cc own n cl sl pc ls (aI z :: st) M :=
  v_newarr (at_ := .boolean) (kd := 1) rfl (by decide) la_Z hz hlen hn hcl hsl hd (by rw [shU_push hS hn]; exact kk)
theorem u_newA {idx len : Nat} {z : Int} (h1 : Cond.classLink own idx RX0 ∈ vGT) (hS : SH n = some (.inr (2, len))) (hz : z = (len : Int)) (hlen : len ≤ 10000) (hn : n < 1000) (hcl : cl + 1 ≤ (xR x).cells) (hsl : sl + len ≤ (xR x).slots) (hd : decode cc pc = .ok (.anewarray idx, 3))
    (kk : vU x Q G cc own (n + 1) (cl + 1) (sl + len) (pc + 3) ls (aR (some n) :: st) (vz M n)) : vU x Q G cc own n cl sl pc ls (aI z :: st) M :=
  v_anewarr h1 hz hlen hn hcl hsl hd (by rw [shU_push hS hn]; exact kk)
theorem u_new {idx ci : Nat} {r : vw_C} (hr : vwCl[ci]? = some r) (h1 : Cond.classLink own idx r.1 ∈ vGT) (h2 : Cond.instantiable r.1 r.2.2 ∈ vGT) (h3 : Cond.initialized r.1 ∈ vGT) (hS : SH n = some (.inl ci)) (hn : n < 1000) (hcl : cl + 1 ≤ (xR x).cells) (hsl : sl + r.2.2 ≤ (xR x).slots) (hd : decode cc pc = .ok (.new idx, 3))
    (kk : vU x Q G cc own (n + 1) (cl + 1) (sl + r.2.2) (pc + 3) ls (aR (some n) :: st) (vz M n)) : vU x Q G cc own n cl sl pc ls st M :=
  v_new hr h1 h2 h3 hn hcl hsl hd (by rw [shU_push hS hn]; exact kk)
theorem u_eqI {z u : Int} (h : z = u) (kk : vU x Q G cc own n cl sl pc ls (aI u :: st) M) : vU x Q G cc own n cl sl pc ls (aI z :: st) M := h ▸ kk
theorem u_iast {i len j : Nat} {z u : Int} (hi : i < 1000) (hs : SH i = some (.inr (0, len))) (hin : i < n ∨ 1000 ≤ i) (hz : z = (j : Int)) (hj : j < len ∧ len ≤ 2147483647) (hd : decode cc pc = .ok (.iastore, 1)) (kk : vU x Q G cc own n cl sl (pc + 1) ls st (vup M.1 i j u, M.2)) : vU x Q G cc own n cl sl pc ls (aI u :: aI z :: aR (some i) :: st) M := by
  subst hz
  refine v_iast hi (shU_at hs hin) (by omega) hd ?_
  rw [Int.toNat_natCast]
  exact kk
theorem u_iald {i len j : Nat} {z u : Int} (hs : SH i = some (.inr (0, len))) (hin : i < n ∨ 1000 ≤ i) (hz : z = (j : Int)) (hj : j < len ∧ len ≤ 2147483647) (hu : M.1 i j = u) (hd : decode cc pc = .ok (.iaload, 1)) (kk : vU x Q G cc own n cl sl (pc + 1) ls (aI u :: st) M) : vU x Q G cc own n cl sl pc ls (aI z :: aR (some i) :: st) M := by
  subst hz
  refine v_iald (shU_at hs hin) (by omega) hd ?_
  rw [Int.toNat_natCast, hu]
  exact kk
theorem u_mem {N : Mem} {P : Mem → Prop} (h : P N) (kk : ∀ M, P M → vU x Q G cc own n cl sl pc ls st M) : vU x Q G cc own n cl sl pc ls st N := kk N h
end VU
/-- j cells are made behind b, each held by a field of b; their numbers stand in W -/
def nG (b j : Nat) (F : Nat → Nat) (W : Nat → Nat → Int) (M0 M : Mem) : Prop := (∀ i, (i < b ∨ b + 1 + j ≤ i) → M.1 i = M0.1 i ∧ M.2 i = M0.2 i) ∧ (∀ i, b ≤ i → i < b + 1 + j → M.1 i = W i) ∧ ∀ k, k < j → M.2 b (F k) = some (b + 1 + k)
theorem nG.mkV {b j : Nat} {F : Nat → Nat} {W : Nat → Nat → Int} {M0 M : Mem} {g : Nat → Nat → Int} (h : nG b j F W M0 M) (hF : ∀ k, k < j → F k ≠ F j) (hg : ∀ i, i ≠ b + 1 + j → g i = M.1 i) (hW : g (b + 1 + j) = W (b + 1 + j)) : nG b (j + 1) F W M0 (g, vup (vz M (b + 1 + j)).2 b (F j) (some (b + 1 + j))) := by
  refine ⟨fun i hi => ⟨?_, ?_⟩, fun i h1 h2 => ?_, fun k hk => ?_⟩ <;> dsimp only
  · rw [hg i (by omega)]; exact (h.1 i (by omega)).1
  · rw [vupR_o (by omega)]
    funext a
    show (if i = b + 1 + j then none else M.2 i a) = _
    rw [if_neg (by omega)]
    exact congrFun (h.1 i (by omega)).2 a
  · by_cases e : i = b + 1 + j
    · rw [e]; exact hW
    · rw [hg i e]; exact h.2.1 i h1 (by omega)
  · rw [vupR]
    by_cases e : k = j
    · rw [if_pos (by rw [e]), e]
    · rw [if_neg (fun q => hF k (by omega) q)]
      show (if b = b + 1 + j then none else M.2 b (F k)) = _
      rw [if_neg (by omega)]
      exact h.2.2 k (by omega)
theorem vz_1 {M : Mem} {n i : Nat} (h : i ≠ n) : (vz M n).1 i = M.1 i := by
  funext a
  show (if i = n then 0 else M.1 i a) = _
  rw [if_neg h]
theorem vz_s {M : Mem} {n : Nat} : (vz M n).1 n = fun _ => 0 := by
  funext a
  show (if n = n then 0 else M.1 n a) = _
  rw [if_pos rfl]
theorem vz_2 {M : Mem} {n i : Nat} (h : i ≠ n) : (vz M n).2 i = M.2 i := by
  funext a
  show (if i = n then none else M.2 i a) = _
  rw [if_neg h]
theorem nG.mk {b j : Nat} {F : Nat → Nat} {W : Nat → Nat → Int} {M0 M : Mem} (h : nG b j F W M0 M) (hF : ∀ k, k < j → F k ≠ F j) (hW : W (b + 1 + j) = fun _ => 0) : nG b (j + 1) F W M0 ((vz M (b + 1 + j)).1, vup (vz M (b + 1 + j)).2 b (F j) (some (b + 1 + j))) :=
  h.mkV hF (fun i hi => vz_1 hi) (by rw [hW]; exact vz_s)
def W0 : Nat → Nat → Int := fun _ _ => 0
def F0k : Nat → Nat := fun k => k
theorem F0k_ne {j : Nat} : ∀ k, k < j → F0k k ≠ F0k j := fun k hk => by unfold F0k; omega
theorem nG.z {b : Nat} {F : Nat → Nat} {W : Nat → Nat → Int} {M : Mem} (h : M.1 b = W b) : nG b 0 F W M M := ⟨fun _ _ => ⟨rfl, rfl⟩, fun i h1 h2 => by rw [show i = b by omega]; exact h, fun k hk => absurd hk (by omega)⟩
abbrev rmk (f c s lo : Nat) : Room := { frames := f, cells := c, slots := s, locals := lo }
/-- what a constructor leaves: its cells are made -/
def vPn (m : Nat) (P : Mem → Prop) : vPost := fun r sh' n' M' => r = none ∧ sh' = shU m ∧ n' = m ∧ P M'
