/-! ===== rules that read or write the memory ===== -/
def vup {α : Type} (f : Nat → Nat → α) (i k : Nat) (v : α) : Nat → Nat → α := fun a b => if a = i ∧ b = k then v else f a b
theorem vup_self {α : Type} (f : Nat → Nat → α) (i k : Nat) (v : α) : vup f i k v i k = v := if_pos ⟨rfl, rfl⟩
theorem vup_ne {α : Type} (f : Nat → Nat → α) {i k a b : Nat} (v : α) (h : a = i → b ≠ k) : vup f i k v a b = f a b := if_neg fun q => h q.1 q.2
theorem vup_nid {α : Type} (f : Nat → Nat → α) {i k a : Nat} (v : α) (b : Nat) (h : a ≠ i) : vup f i k v a b = f a b := if_neg fun q => h q.1
theorem vcls0 : ∀ w ∈ u_ws RX0 TX0 20, w ∈ vGT := by decide +kernel
theorem vcls1 : ∀ w ∈ u_ws RX1 TX1 7, w ∈ vGT := by decide +kernel
theorem vcls2 : ∀ w ∈ u_ws RX2 TX2 6, w ∈ vGT := by decide +kernel
theorem vcls3 : ∀ w ∈ u_ws RX3 TX3 9, w ∈ vGT := by decide +kernel
theorem vcls {ci : Nat} {r : vw_C} (h : vwCl[ci]? = some r) : (∀ w ∈ u_ws r.1 r.2.1 r.2.2, w ∈ vGT) ∧ (∀ k, k < r.2.2 → parseFieldDescriptor (r.2.1 k).2.2.1 = some (vtyF ci k)) ∧ ∀ a, a < r.2.2 → ∀ b, b < r.2.2 → a ≠ b → (r.2.1 a).2.1 ≠ (r.2.1 b).2.1 := by
  match ci, h with
  | 0, h => cases h; exact ⟨vcls0, tyX0_ok, nmX0⟩
  | 1, h => cases h; exact ⟨vcls1, tyX1_ok, nmX1⟩
  | 2, h => cases h; exact ⟨vcls2, tyX2_ok, nmX2⟩
  | 3, h => cases h; exact ⟨vcls3, tyX3_ok, nmX3⟩
  | n + 4, h => simp at h
def vLk (own : String) (idx ci k : Nat) : Prop := ∃ r : vw_C, vwCl[ci]? = some r ∧ k < r.2.2 ∧ (Cond.fieldLink own idx (r.2.1 k).1 (r.2.1 k).2.1 (r.2.1 k).2.2.1 ∈ vGT ∨ ∃ host, Cond.fieldLinkNest own idx (r.2.1 k).1 (r.2.1 k).2.1 (r.2.1 k).2.2.1 host ∈ vNW)
def vLp (own : String) (idx ci k : Nat) : Prop := ∃ r : vw_C, vwCl[ci]? = some r ∧ k < r.2.2 ∧ (r.2.1 k).2.2.2 = false ∧ (Cond.fieldLink own idx (r.2.1 k).1 (r.2.1 k).2.1 (r.2.1 k).2.2.1 ∈ vGT ∨ ∃ host, Cond.fieldLinkNest own idx (r.2.1 k).1 (r.2.1 k).2.1 (r.2.1 k).2.2.1 host ∈ vNW)
def vLf (own : String) (idx ci k : Nat) : Prop := ∃ r : vw_C, vwCl[ci]? = some r ∧ k < r.2.2 ∧ (r.2.1 k).2.2.2 = true ∧ (r.2.1 k).1 = own ∧ Cond.fieldLink own idx (r.2.1 k).1 (r.2.1 k).2.1 (r.2.1 k).2.2.1 ∈ vGT
theorem vidx {j : Int} {len : Nat} (h : 0 ≤ j ∧ j < (len : Int) ∧ len ≤ 2147483647) : (Int32.ofInt j).toNatClampNeg = j.toNat ∧ ¬ (Int32.ofInt j < 0 ∨ len ≤ (Int32.ofInt j).toNatClampNeg) := by
  have e := Int32.toNatClampNeg_ofInt_of_le (n := j) (by omega) (by omega)
  refine ⟨e, fun q => ?_⟩
  rcases q with q | q
  · rw [i32_0, i32_lt (by omega) i32_r0] at q
    omega
  · rw [e] at q
    omega
theorem vArr {G : vGG} {U : State} {sh : Nat → Option Shp} {n : Nat} {M : Mem} {H : Heap} (hR : vRel G U sh n M H) (hK : vKF G U) {i kd len : Nat} (hkd : kd ≤ 2) (hs : sh i = some (.inr (kd, len))) :
    ∃ cell : Cell, H[vad G i]? = some cell ∧ U.isArrayOf cell (vkt kd) ∧ cell.vm ≠ .unknown ∧ (len ≤ cell.slots.size ∧ cell.slots.size.toInt32 = Int32.ofInt (len : Int)) ∧ ∀ j, j < len → cell.slots[j]? = some (vav G kd M i j) := by
  have h := hR.2.2.2.2 i _ hs
  by_cases hi : i < 1000
  · refine ⟨_, h.1 hi, ?_, (fun q => by cases q), ⟨Nat.le_of_eq (arrV_size _ _ _).symm, by rw [arrV_size, Int32.ofInt_eq_ofNat]⟩, fun j hj => arrV_read _ _ hj⟩
    have hA : ArrOfT U (G.2.1 kd) (vkt kd) := by
      match kd, hkd with
      | 0, _ => exact (hK.1.2 0 _ rfl).1
      | 1, _ => exact (hK.1.2 1 _ rfl).1
      | 2, _ => exact (hK.1.2 2 _ rfl).1
    exact hA len _
  · obtain ⟨h0, cell, c1, c2, c3, c4, c5⟩ := h.2 (by omega)
    simp only at h0
    subst h0
    exact ⟨cell, c1, c2, c3, c4, fun j hj => by rw [c5 j hj]; simp [vav]⟩
section VM
variable {x : vXX} {Q : State → Prop} {G : vGG} {cc : ByteArray} {own : String} {sh : Nat → Option Shp} {n cl sl pc : Nat} {ls : List (Option AV)} {st : List AV} {M : Mem}
theorem v_get0 {idx ci k i : Nat} {v : AV} (hf : vLk own idx ci k) (hs : sh i = some (.inl ci)) (hv : vfv G ci M i k = vrv G v) (hd : decode cc pc = .ok (.getfield idx, 3))
    (kk : V x Q G cc own sh n cl sl (pc + 3) ls (v :: st) M) : V x Q G cc own sh n cl sl pc ls (aR (some i) :: st) M := fun C H locs la hR hS hL => by
  obtain ⟨r, hr, hk, hlink⟩ := hf
  obtain ⟨hi, r', hr', cell, q1, q2, q3, q4⟩ := hR.2.2.2.2 i _ hs
  obtain rfl : r = r' := Option.some.inj (hr.symm.trans hr')
  obtain ⟨hcw, -, -⟩ := vcls hr
  have hts := C.2.2.2.2.1
  obtain ⟨hS1, hfc, kC, hkC, hkind⟩ := C.2.2.2.2.2.1.1.1 ci _ hr
  obtain ⟨cf, kf, fi, f, hif, hsl⟩ := hS1 k hk
  have hst := (u_facts hfc hkC (u_lays hts hcw hk) hif).1
  have hslot : cell.slots[f.slot]? = some (vrv G v) := by rw [hsl, q4 k hk, hv]
  have K := kk C H locs la hR hS hL
  rcases hlink with hl | ⟨host, hl⟩
  · exact W.getf C.1 C.2.1 C.2.2.2.1 (hts _ hl) hif hst q1 (by rw [q3]; exact fun h => by cases h) hslot rfl rfl hd K
  · exact va_Wgetf C.1 C.2.1 C.2.2.2.1 (va_Nw.use rfl (C.2.2.2.2.2.1.2.1 _ hl)) hif hst q1 (by rw [q3]; exact fun h => by cases h) hslot rfl rfl hd K
theorem v_getI {idx ci k i : Nat} (hf : vLk own idx ci k) (hr : vrefF ci k = false) (hs : sh i = some (.inl ci)) (hd : decode cc pc = .ok (.getfield idx, 3))
    (kk : V x Q G cc own sh n cl sl (pc + 3) ls (aI (M.1 i k) :: st) M) : V x Q G cc own sh n cl sl pc ls (aR (some i) :: st) M := v_get0 (v := aI (M.1 i k)) hf hs (by simp [vfv, hr, vrv]) hd kk
theorem v_getR {idx ci k i j : Nat} (hf : vLk own idx ci k) (hr : vrefF ci k = true) (hs : sh i = some (.inl ci)) (hj : M.2 i k = some j) (hd : decode cc pc = .ok (.getfield idx, 3))
    (kk : V x Q G cc own sh n cl sl (pc + 3) ls (aR (some j) :: st) M) : V x Q G cc own sh n cl sl pc ls (aR (some i) :: st) M := v_get0 (v := aR (some j)) hf hs (by simp [vfv, hr, vrv, hj]) hd kk
theorem v_put0 {idx ci k i : Nat} {v : AV} {M' : Mem} (hf : vLp own idx ci k) (hs : sh i = some (.inl ci)) (hn : narrow (vtyF ci k) (vrv G v) = vrv G v) (hfit : fits (vtyF ci k) (vrv G v) = true)
    (h1 : ∀ j, j ≠ i → ∀ k, M'.1 j k = M.1 j k) (h2 : ∀ j, j ≠ i → ∀ k, M'.2 j k = M.2 j k) (hM : ∀ j, vfv G ci M' i j = updV (vfv G ci M i) k (vrv G v) j) (hd : decode cc pc = .ok (.putfield idx, 3))
    (kk : V x Q G cc own sh n cl sl (pc + 3) ls st M') : V x Q G cc own sh n cl sl pc ls (v :: aR (some i) :: st) M := fun C H locs la hR hS hL => by
  obtain ⟨r, hr, hk, hfin, hlink⟩ := hf
  obtain ⟨hi, r', hr', cell, q1, q2, q3, q4⟩ := hR.2.2.2.2 i _ hs
  obtain rfl : r = r' := Option.some.inj (hr.symm.trans hr')
  obtain ⟨hcw, hty, hnm⟩ := vcls hr
  have hts := C.2.2.2.2.1
  have hK := C.2.2.2.2.2.1.1
  have hap := va_apart (own := own) hts hcw (vtyF ci) hty hnm hK hr
  obtain ⟨hS1, hfc, kC, hkC, hkind⟩ := hK.1 ci _ hr
  obtain ⟨cf, kf, fi, f, hif, hsl⟩ := hS1 k hk
  have hlay := hts _ (hcw _ (u_in_lay hk))
  unfold u_lay at hlay
  rw [if_neg (by rw [hfin]; decide)] at hlay
  have hst := (u_facts hfc hkC (u_lays hts hcw hk) hif).1
  have h6 := u_store hfc hkC hkind hlay hif (hty k hk) hn hfit
  have hA : vnew G (vad G i) := by show G.2.2.1 ≤ vad G i; rw [vad_lo hi]; omega
  have fin : ∀ H' : Heap, H'[vad G i]? = some (cell.setSlot f.slot (vrv G v)) → H'.size = H.size → (∀ q, q ≠ vad G i → H'[q]? = H[q]?) → vRel G (xs x) sh n M' H' := by
    intro H' e1 e2 e3
    rw [hsl] at e1
    refine hR.put hi e2 e3 h1 h2 (fun y hy => ?_)
    rw [hs] at hy
    cases hy
    exact ⟨hi, r, hr, t_OB.to (V := updV (vfv G ci M i) k (vrv G v)) ⟨_, e1, q2, q3, t_set q4 hap hk (vrv G v)⟩ (fun j _ => (hM j).symm)⟩
  rcases hlink with hl | ⟨host, hl⟩
  · exact W.putK C.1 C.2.1 (f := f) ⟨C.2.2.2.1, hts _ hl, ⟨_, _, _, hif⟩, hst⟩ (by rw [q2]; exact h6) q1 q3 (by rw [hsl]; exact k2_hasslot (q4 k hk)) rfl rfl hd fun H' e1 e2 e3 => kk C H' _ la (fin H' e1 e2 e3) (hS.put e2 e3 hA) hL
  · exact va_WputK C.1 C.2.1 (f := f) C.2.2.2.1 (va_Nw.use rfl (C.2.2.2.2.2.1.2.1 _ hl)) hif hst (by rw [q2]; exact h6) q1 q3 (by rw [hsl]; exact k2_hasslot (q4 k hk)) rfl rfl hd fun H' e1 e2 e3 => kk C H' _ la (fin H' e1 e2 e3) (hS.put e2 e3 hA) hL
theorem v_putF0 {idx ci k i : Nat} {v : AV} {M' : Mem} (hin : (xM x).name = "<init>") (hf : vLf own idx ci k) (hs : sh i = some (.inl ci)) (hn : narrow (vtyF ci k) (vrv G v) = vrv G v) (hfit : fits (vtyF ci k) (vrv G v) = true)
    (h1 : ∀ j, j ≠ i → ∀ k, M'.1 j k = M.1 j k) (h2 : ∀ j, j ≠ i → ∀ k, M'.2 j k = M.2 j k) (hM : ∀ j, vfv G ci M' i j = updV (vfv G ci M i) k (vrv G v) j) (hd : decode cc pc = .ok (.putfield idx, 3))
    (kk : V x Q G cc own sh n cl sl (pc + 3) ls st M') : V x Q G cc own sh n cl sl pc ls (v :: aR (some i) :: st) M := fun C H locs la hR hS hL => by
  obtain ⟨r, hr, hk, hfin, hdecl, hl⟩ := hf
  obtain ⟨hi, r', hr', cell, q1, q2, q3, q4⟩ := hR.2.2.2.2 i _ hs
  obtain rfl : r = r' := Option.some.inj (hr.symm.trans hr')
  obtain ⟨hcw, hty, hnm⟩ := vcls hr
  have hts := C.2.2.2.2.1
  have hK := C.2.2.2.2.2.1.1
  have hown := C.2.2.2.1
  have hap := va_apart (own := own) hts hcw (vtyF ci) hty hnm hK hr
  obtain ⟨hS1, hfc, kC, hkC, hkind⟩ := hK.1 ci _ hr
  obtain ⟨cf, kf, fi, f, hif, hsl⟩ := hS1 k hk
  have hlay := hts _ (hcw _ (u_in_lay hk))
  unfold u_lay at hlay
  rw [if_pos hfin] at hlay
  have hst := (u_facts hfc hkC (u_lays hts hcw hk) hif).1
  have hcf : (xm x).cls = cf := by
    obtain ⟨_, _, c', _, _, _, -, -, hf', -, -, -, hown2, -⟩ := Cond.laysFinal_spec hlay
    have e1 : c' = cf := by have := hif.symm.trans hf'; simp at this; exact this.1.symm
    rw [hdecl] at hown2
    rw [← e1]; exact Option.some.inj (hown.symm.trans hown2)
  have h6 := u_fits hfc hkC hkind (Or.inr hlay) hif (hty k hk) hn hfit
  have hA : vnew G (vad G i) := by show G.2.2.1 ≤ vad G i; rw [vad_lo hi]; omega
  refine W.putFinK C.1 C.2.1 hown (hts _ hl) hif hst hcf hin (by rw [q2]; exact h6) q1 q3 (by rw [hsl]; exact k2_hasslot (q4 k hk)) rfl rfl hd fun H' e1 e2 e3 => kk C H' _ la ?_ (hS.put e2 e3 hA) hL
  rw [hsl] at e1
  refine hR.put hi e2 e3 h1 h2 (fun y hy => ?_)
  rw [hs] at hy
  cases hy
  exact ⟨hi, r, hr, t_OB.to (V := updV (vfv G ci M i) k (vrv G v)) ⟨_, e1, q2, q3, t_set q4 hap hk (vrv G v)⟩ (fun j _ => (hM j).symm)⟩
theorem vfv_upI {ci i k : Nat} {z : Int} (hr : vrefF ci k = false) (j : Nat) : vfv G ci (vup M.1 i k z, M.2) i j = updV (vfv G ci M i) k (vrv G (aI z)) j := by
  by_cases hj : j = k
  · subst hj; simp [vfv, hr, updV, vup, vrv]
  · simp [vfv, updV, vup, hj]
theorem vfv_upR {ci i k v : Nat} (hr : vrefF ci k = true) (j : Nat) : vfv G ci (M.1, vup M.2 i k (some v)) i j = updV (vfv G ci M i) k (vrv G (aR (some v))) j := by
  by_cases hj : j = k
  · subst hj; simp [vfv, hr, updV, vup, vrv]
  · simp [vfv, updV, vup, hj]
theorem v_putI {idx ci k i : Nat} {z : Int} (hf : vLp own idx ci k) (hr : vrefF ci k = false) (ht : vtyF ci k = .int) (hs : sh i = some (.inl ci)) (hd : decode cc pc = .ok (.putfield idx, 3))
    (kk : V x Q G cc own sh n cl sl (pc + 3) ls st (vup M.1 i k z, M.2)) : V x Q G cc own sh n cl sl pc ls (aI z :: aR (some i) :: st) M :=
  v_put0 (M' := (vup M.1 i k z, M.2)) hf hs (by rw [ht]; rfl) (by rw [ht]; rfl) (fun j hj b => vup_nid _ _ _ hj) (fun _ _ _ => rfl) (vfv_upI hr) hd kk
theorem vbool {z : Int} (hz : z = 0 ∨ z = 1) : narrow .boolean (.int (Int32.ofInt z)) = .int (Int32.ofInt z) ∧ fits .boolean (.int (Int32.ofInt z)) = true := by
  rcases hz with rfl | rfl <;> decide +kernel
theorem v_putZ {idx ci k i : Nat} {z : Int} (hf : vLp own idx ci k) (hr : vrefF ci k = false) (ht : vtyF ci k = .boolean) (hz : z = 0 ∨ z = 1) (hs : sh i = some (.inl ci)) (hd : decode cc pc = .ok (.putfield idx, 3))
    (kk : V x Q G cc own sh n cl sl (pc + 3) ls st (vup M.1 i k z, M.2)) : V x Q G cc own sh n cl sl pc ls (aI z :: aR (some i) :: st) M :=
  v_put0 (M' := (vup M.1 i k z, M.2)) hf hs (by rw [ht]; exact (vbool hz).1) (by rw [ht]; exact (vbool hz).2) (fun j hj b => vup_nid _ _ _ hj) (fun _ _ _ => rfl) (vfv_upI hr) hd kk
theorem v_putFR {idx ci k i v : Nat} (hin : (xM x).name = "<init>") (hf : vLf own idx ci k) (hr : vrefF ci k = true) (hn : ∀ a, narrow (vtyF ci k) (.ref a) = .ref a) (hfit : ∀ a, fits (vtyF ci k) (.ref a) = true) (hs : sh i = some (.inl ci)) (hd : decode cc pc = .ok (.putfield idx, 3))
    (kk : V x Q G cc own sh n cl sl (pc + 3) ls st (M.1, vup M.2 i k (some v))) : V x Q G cc own sh n cl sl pc ls (aR (some v) :: aR (some i) :: st) M :=
  v_putF0 (M' := (M.1, vup M.2 i k (some v))) hin hf hs (hn _) (hfit _) (fun _ _ _ => rfl) (fun j hj b => vup_nid _ _ _ hj) (vfv_upR hr) hd kk
theorem v_iald {i len : Nat} {j : Int} (hs : sh i = some (.inr (0, len))) (hj : 0 ≤ j ∧ j < (len : Int) ∧ len ≤ 2147483647) (hd : decode cc pc = .ok (.iaload, 1))
    (kk : V x Q G cc own sh n cl sl (pc + 1) ls (aI (M.1 i j.toNat) :: st) M) : V x Q G cc own sh n cl sl pc ls (aI j :: aR (some i) :: st) M := fun C H locs la hR hS hL => by
  obtain ⟨cell, c1, c2, c3, c4, c5⟩ := vArr hR C.2.2.2.2.2.1 (by omega) hs
  obtain ⟨e1, e2⟩ := vidx hj
  exact W.iald (v := .int (Int32.ofInt (M.1 i j.toNat))) C.1 C.2.1 c1 c2 c3 (fun q => e2 (q.imp id (fun w => Nat.le_trans c4.1 w))) (by rw [e1, c5 _ (by omega)]; simp [vav]) rfl rfl hd (kk C H locs la hR hS hL)
theorem v_zald {i len : Nat} {j : Int} (hs : sh i = some (.inr (1, len))) (hj : 0 ≤ j ∧ j < (len : Int) ∧ len ≤ 2147483647) (hd : decode cc pc = .ok (.baload, 1))
    (kk : V x Q G cc own sh n cl sl (pc + 1) ls (aI (M.1 i j.toNat) :: st) M) : V x Q G cc own sh n cl sl pc ls (aI j :: aR (some i) :: st) M := fun C H locs la hR hS hL => by
  obtain ⟨cell, c1, c2, c3, c4, c5⟩ := vArr hR C.2.2.2.2.2.1 (by omega) hs
  obtain ⟨e1, e2⟩ := vidx hj
  exact W.zald (v := .int (Int32.ofInt (M.1 i j.toNat))) C.1 C.2.1 c1 c2 c3 (fun q => e2 (q.imp id (fun w => Nat.le_trans c4.1 w))) (by rw [e1, c5 _ (by omega)]; simp [vav]) rfl rfl hd (kk C H locs la hR hS hL)
theorem v_aald {i len v : Nat} {j : Int} (hs : sh i = some (.inr (2, len))) (hj : 0 ≤ j ∧ j < (len : Int) ∧ len ≤ 2147483647) (hv : M.2 i j.toNat = some v) (hd : decode cc pc = .ok (.aaload, 1))
    (kk : V x Q G cc own sh n cl sl (pc + 1) ls (aR (some v) :: st) M) : V x Q G cc own sh n cl sl pc ls (aI j :: aR (some i) :: st) M := fun C H locs la hR hS hL => by
  obtain ⟨cell, c1, c2, c3, c4, c5⟩ := vArr hR C.2.2.2.2.2.1 (by omega) hs
  obtain ⟨e1, e2⟩ := vidx hj
  exact W.aald (v := .ref (vad G v)) (ty := .object RX0) C.1 C.2.1 c1 c2 rfl c3 (fun q => e2 (q.imp id (fun w => Nat.le_trans c4.1 w))) (by rw [e1, c5 _ (by omega)]; simp [vav, hv, va_rf]) rfl rfl hd (kk C H locs la hR hS hL)
theorem v_alen {i kd len : Nat} (hkd : kd ≤ 2) (hs : sh i = some (.inr (kd, len))) (hd : decode cc pc = .ok (.arraylength, 1))
    (kk : V x Q G cc own sh n cl sl (pc + 1) ls (aI (len : Int) :: st) M) : V x Q G cc own sh n cl sl pc ls (aR (some i) :: st) M := fun C H locs la hR hS hL => by
  obtain ⟨cell, c1, c2, c3, c4, c5⟩ := vArr hR C.2.2.2.2.2.1 hkd hs
  exact W.alen (n := Int32.ofInt (len : Int)) C.1 C.2.1 c1 c2 c4.2 rfl rfl hd (kk C H locs la hR hS hL)
theorem vav_upI {kd i k : Nat} {z : Int} (hk : kd ≠ 2) : vav G kd (vup M.1 i k z, M.2) i = updV (vav G kd M i) k (.int (Int32.ofInt z)) := by
  funext j
  by_cases hj : j = k
  · subst hj; simp [vav, updV, vup, hk]
  · simp [vav, updV, vup, hj]
theorem vav_upR {i k v : Nat} : vav G 2 (M.1, vup M.2 i k (some v)) i = updV (vav G 2 M i) k (.ref (vad G v)) := by
  funext j
  by_cases hj : j = k
  · subst hj; simp [vav, updV, vup, va_rf]
  · simp [vav, updV, vup, hj]
theorem v_iast {i len : Nat} {j z : Int} (hi : i < 1000) (hs : sh i = some (.inr (0, len))) (hj : 0 ≤ j ∧ j < (len : Int) ∧ len ≤ 2147483647) (hd : decode cc pc = .ok (.iastore, 1))
    (kk : V x Q G cc own sh n cl sl (pc + 1) ls st (vup M.1 i j.toNat z, M.2)) : V x Q G cc own sh n cl sl pc ls (aI z :: aI j :: aR (some i) :: st) M := fun C H locs la hR hS hL => by
  have c1 := (hR.2.2.2.2 i _ hs).1 hi
  obtain ⟨e1, e2⟩ := vidx hj
  have hA : vnew G (vad G i) := by show G.2.2.1 ≤ vad G i; rw [vad_lo hi]; omega
  refine W.iast C.1 C.2.1 c1 ((C.2.2.2.2.2.1.1.2 0 _ rfl).1 _ _) (fun q => by cases q) (by rw [arrV_size]; exact e2) rfl rfl hd fun H' g1 g2 g3 => kk C H' _ la (hR.put hi g2 g3 (fun j hj b => vup_nid _ _ _ hj) (fun _ _ _ => rfl) (fun y hy => ?_)) (hS.put g2 g3 hA) hL
  rw [hs] at hy
  cases hy
  refine ⟨fun _ => ?_, fun h => by omega⟩
  show H'[vad G i]? = some (arrV (G.2.1 0) len (vav G 0 _ i))
  rw [g1, e1, arrV_store, vav_upI (kd := 0) (by decide)]
theorem v_zast {i len : Nat} {j z : Int} (hz : z = 0 ∨ z = 1) (hi : i < 1000) (hs : sh i = some (.inr (1, len))) (hj : 0 ≤ j ∧ j < (len : Int) ∧ len ≤ 2147483647) (hd : decode cc pc = .ok (.bastore, 1))
    (kk : V x Q G cc own sh n cl sl (pc + 1) ls st (vup M.1 i j.toNat z, M.2)) : V x Q G cc own sh n cl sl pc ls (aI z :: aI j :: aR (some i) :: st) M := fun C H locs la hR hS hL => by
  have c1 := (hR.2.2.2.2 i _ hs).1 hi
  obtain ⟨e1, e2⟩ := vidx hj
  have hA : vnew G (vad G i) := by show G.2.2.1 ≤ vad G i; rw [vad_lo hi]; omega
  refine W.zast C.1 C.2.1 c1 ((C.2.2.2.2.2.1.1.2 1 _ rfl).1 _ _) (fun q => by cases q) (by rw [arrV_size]; exact e2) rfl rfl hd fun H' g1 g2 g3 => kk C H' _ la (hR.put hi g2 g3 (fun j hj b => vup_nid _ _ _ hj) (fun _ _ _ => rfl) (fun y hy => ?_)) (hS.put g2 g3 hA) hL
  rw [hs] at hy
  cases hy
  refine ⟨fun _ => ?_, fun h => by omega⟩
  show H'[vad G i]? = some (arrV (G.2.1 1) len (vav G 1 _ i))
  rw [g1, e1, (vbool hz).1, arrV_store, vav_upI (kd := 1) (by decide)]
theorem v_aast {i len v : Nat} {j : Int} (hi : i < 1000) (hs : sh i = some (.inr (2, len))) (hv : sh v = some (.inl 0)) (hj : 0 ≤ j ∧ j < (len : Int) ∧ len ≤ 2147483647) (hd : decode cc pc = .ok (.aastore, 1))
    (kk : V x Q G cc own sh n cl sl (pc + 1) ls st (M.1, vup M.2 i j.toNat (some v))) : V x Q G cc own sh n cl sl pc ls (aR (some v) :: aI j :: aR (some i) :: st) M := fun C H locs la hR hS hL => by
  have c1 := (hR.2.2.2.2 i _ hs).1 hi
  obtain ⟨e1, e2⟩ := vidx hj
  have hA : vnew G (vad G i) := by show G.2.2.1 ≤ vad G i; rw [vad_lo hi]; omega
  obtain ⟨hvi, r, hr, cellV, g1, g2, g3, -⟩ := hR.2.2.2.2 v _ hv
  have hr0 : r = (RX0, TX0, 20) := Option.some.inj (hr.symm.trans rfl)
  subst hr0
  have hcls := (C.2.2.2.2.2.1.1.1 0 _ rfl).2
  obtain ⟨kA, comp, k1, k2, k3, -⟩ := (C.2.2.2.2.2.1.1.2 2 _ rfl).2
  have hcomp : comp = G.1.1 0 := Option.some.inj (k3.symm.trans hcls.1)
  subst hcomp
  obtain ⟨kC, hkC, -⟩ := hcls.2
  refine W.aast C.1 C.2.1 c1 (fun q h => by cases h) (fun h => by cases h) k1 k2 rfl hkC ⟨fun q => e2 (Or.inl q), by rw [arrV_size]; exact Nat.not_le.mp fun q => e2 (Or.inr q)⟩ g1 (fun q h => by rw [g3] at h; cases h) (by rw [g2]; exact hkC) (by rw [g2]; exact va_assign hcls) rfl rfl hd fun H' f1 f2 f3 => kk C H' _ la (hR.put hi f2 f3 (fun _ _ _ => rfl) (fun j hj b => vup_nid _ _ _ hj) (fun y hy => ?_)) (hS.put f2 f3 hA) hL
  rw [hs] at hy
  cases hy
  refine ⟨fun _ => ?_, fun h => by omega⟩
  rw [f1, e1, arrV_store, vav_upR]
end VM
def vK0 (y : MethodName) (cy : ByteArray) (mL : Nat) (ret : Option FieldType) (nA : Nat) : Prop :=
  (y.cls ≠ "java/lang/invoke/MethodHandle" ∧ y.cls ≠ "java/lang/invoke/VarHandle" ∧ (parseMethodDescriptor y.desc).map (fun d => d.parameters.length) = some nA) ∧ Cond.code y cy mL ret ∈ vGT ∧ Cond.initialized y.cls ∈ vGT
