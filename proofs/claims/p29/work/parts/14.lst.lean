/-! ===== storing a long ===== -/
theorem vls_set2 {G : vGG} {la : Array Slot} {ls : List (Option AV)} {i : Nat} {z : Int} (hl : i + 1 < ls.length) (hn : vnl ls i = true) (h : lv_has la ls.length ((i, vrv G (aL z)) :: (vprs G 0 ls).filter (fun q => !(q.1 == i) && (!(q.1 == i + 1) && !(q.1 + 1 == i && q.2.category == 2))))) :
    lv_has la ((ls.set i (some (aL z))).set (i + 1) none).length (vprs G 0 ((ls.set i (some (aL z))).set (i + 1) none)) := by
  refine ⟨by rw [List.length_set, List.length_set]; exact h.1, h.2.1, fun q hq => h.2.2 q ?_⟩
  obtain ⟨j, w, hj, rfl⟩ := vprs_mem.mp hq
  simp only [Nat.zero_add]
  by_cases hj1 : i + 1 = j
  · subst hj1
    rw [List.getElem?_set_self (by rw [List.length_set]; exact hl)] at hj
    cases hj
  rw [List.getElem?_set_ne hj1] at hj
  by_cases hji : i = j
  · subst hji
    rw [List.getElem?_set_self (by omega)] at hj
    cases hj
    exact List.mem_cons_self
  · rw [List.getElem?_set_ne hji] at hj
    refine List.mem_cons_of_mem _ (List.mem_filter.mpr ⟨vprs_mem.mpr ⟨j, w, hj, by simp⟩, ?_⟩)
    have h1 : (j == i) = false := by simp; omega
    have h3 : (j == i + 1) = false := by simp; omega
    simp only [h1, h3, Bool.not_false, Bool.true_and, Bool.not_eq_true', Bool.and_eq_false_iff, beq_eq_false_iff_ne]
    by_cases h2 : j + 1 = i
    · right
      subst h2
      simp only [vnl, hj] at hn
      rw [vrv_cat]
      rcases w with z | z | o
      · simp [vcat]
      · simp [vnl1] at hn
      · simp [vcat]
    · left; exact h2
section VL
variable {x : vXX} {Q : State → Prop} {G : vGG} {cc : ByteArray} {own : String} {sh : Nat → Option Shp} {n cl sl pc : Nat} {ls : List (Option AV)} {st : List AV} {M : Mem}
theorem v_lstore_n {j : Nat} {kf : Fin 4} (hj : (kf : Nat) = j) {z : Int} (hd : decode cc pc = .ok (.lstore_n kf, 1)) (hi : j + 1 < ls.length) (hn : vnl ls j = true) (k : V x Q G cc own sh n cl sl (pc + 1) ((ls.set j (some (aL z))).set (j + 1) none) st M) : V x Q G cc own sh n cl sl pc ls (aL z :: st) M :=
  fun C H locs la hR hS hL => lv_lstore_n C.1 C.2.1 hd hj hL hi rfl (fun la' h' => k (by rw [List.length_set, List.length_set]; exact C) H locs la' hR hS (vls_set2 (z := z) hi hn h'))
theorem v_lst1 {a0 a1 a2 : Option AV} {r : List (Option AV)} {z : Int} (hd : decode cc pc = .ok (.lstore_n 1, 1)) (hn : vnl1 a0 = true) (k : V x Q G cc own sh n cl sl (pc + 1) (a0 :: some (aL z) :: none :: r) st M) : V x Q G cc own sh n cl sl pc (a0 :: a1 :: a2 :: r) (aL z :: st) M :=
  v_lstore_n (j := 1) rfl hd (by simp) (by exact hn) k
theorem v_lst3 {a0 a1 a2 a3 a4 : Option AV} {r : List (Option AV)} {z : Int} (hd : decode cc pc = .ok (.lstore_n 3, 1)) (hn : vnl1 a2 = true) (k : V x Q G cc own sh n cl sl (pc + 1) (a0 :: a1 :: a2 :: some (aL z) :: none :: r) st M) : V x Q G cc own sh n cl sl pc (a0 :: a1 :: a2 :: a3 :: a4 :: r) (aL z :: st) M :=
  v_lstore_n (j := 3) rfl hd (by simp) (by exact hn) k
end VL
