theorem i32_lt {a b : Int} (ha : R32 a) (hb : R32 b) : Int32.ofInt a < Int32.ofInt b ↔ a < b := by
  rw [Int32.lt_iff_toInt_lt, Int32.toInt_ofInt_of_le (by omega) (by omega), Int32.toInt_ofInt_of_le (by omega) (by omega)]
theorem i32_le {a b : Int} (ha : R32 a) (hb : R32 b) : Int32.ofInt a ≤ Int32.ofInt b ↔ a ≤ b := by
  rw [Int32.le_iff_toInt_le, Int32.toInt_ofInt_of_le (by omega) (by omega), Int32.toInt_ofInt_of_le (by omega) (by omega)]
theorem i32_eq {a b : Int} (ha : R32 a) (hb : R32 b) : Int32.ofInt a = Int32.ofInt b ↔ a = b := by
  rw [← Int32.toInt_inj, Int32.toInt_ofInt_of_le (by omega) (by omega), Int32.toInt_ofInt_of_le (by omega) (by omega)]
theorem i32_0 : (0 : Int32) = Int32.ofInt 0 := by decide
theorem i32_r0 : R32 0 := by decide
theorem i32_T (a : Int32) : R32 a.toInt := ⟨Int32.le_toInt a, by have := Int32.toInt_lt a; omega⟩
theorem i32_div {a b : Int} (ha : R32 a) (hb : R32 b) : Int32.ofInt a / Int32.ofInt b = Int32.ofInt (a.tdiv b) := by
  rw [← Int32.toInt_inj, Int32.toInt_div, Int32.toInt_ofInt_of_le (by omega) (by omega), Int32.toInt_ofInt_of_le (by omega) (by omega), Int32.toInt_ofInt]
def vw (z : Int) : Int := (Int32.ofInt z).toInt
theorem vw_R (z : Int) : R32 (vw z) := i32_T _
theorem vw_of (z : Int) : Int32.ofInt (vw z) = Int32.ofInt z := Int32.ofInt_toInt _
theorem vw_in {z : Int} (h : R32 z) : vw z = z := Int32.toInt_ofInt_of_le (by omega) (by omega)
def vand (a b : Int) : Int := (Int32.ofInt a &&& Int32.ofInt b).toInt
def vor (a b : Int) : Int := (Int32.ofInt a ||| Int32.ofInt b).toInt
def vxor (a b : Int) : Int := (Int32.ofInt a ^^^ Int32.ofInt b).toInt
def vshl (a b : Int) : Int := (Int32.ofInt a <<< (Int32.ofInt b &&& 31)).toInt
def vshr (a b : Int) : Int := (Int32.ofInt a >>> (Int32.ofInt b &&& 31)).toInt
def vushr (a b : Int) : Int := (((Int32.ofInt a).toUInt32 >>> ((Int32.ofInt b).toUInt32 &&& Int32.toUInt32 31)).toInt32).toInt
section VR
variable {x : vXX} {Q : State → Prop} {G : vGG} {cc : ByteArray} {own : String} {sh : Nat → Option Shp} {n cl sl pc : Nat} {ls : List (Option AV)} {st : List AV} {M : Mem}
theorem v_iconst {z : Int} (hd : decode cc pc = .ok (.iconst z, 1)) (k : V x Q G cc own sh n cl sl (pc + 1) ls (aI z :: st) M) : V x Q G cc own sh n cl sl pc ls st M :=
  fun C H locs la hR hS hL => lv_iconst C.1 C.2.1 hd rfl (k C H locs la hR hS hL)
theorem v_bipush {z : Int} (hd : decode cc pc = .ok (.bipush z, 2)) (hv : (Int8.ofInt z).toInt32 = Int32.ofInt z) (k : V x Q G cc own sh n cl sl (pc + 2) ls (aI z :: st) M) : V x Q G cc own sh n cl sl pc ls st M :=
  fun C H locs la hR hS hL => lv_bipush C.1 C.2.1 hd hv (k C H locs la hR hS hL)
theorem v_sipush {z : Int} (hd : decode cc pc = .ok (.sipush z, 3)) (hv : (Int16.ofInt z).toInt32 = Int32.ofInt z) (k : V x Q G cc own sh n cl sl (pc + 3) ls (aI z :: st) M) : V x Q G cc own sh n cl sl pc ls st M :=
  fun C H locs la hR hS hL => lv_sipush C.1 C.2.1 hd hv (k C H locs la hR hS hL)
theorem v_ldc {idx : Nat} {v : Int32} (z : Int) (hc : Cond.constant own idx v ∈ vGT) (hv : v = Int32.ofInt z) (hd : decode cc pc = .ok (.ldc idx, 2)) (k : V x Q G cc own sh n cl sl (pc + 2) ls (aI z :: st) M) : V x Q G cc own sh n cl sl pc ls st M :=
  fun C H locs la hR hS hL => lv_ldc C.1 C.2.1 C.2.2.2.1 (C.2.2.2.2.1 _ hc) hd (by rw [hv]; exact k C H locs la hR hS hL)
theorem v_ldc2 {idx : Nat} {v : Int64} (z : Int) (hc : Cond.constantLong own idx v ∈ vGT) (hv : v = Int64.ofInt z) (hd : decode cc pc = .ok (.ldc2_w idx, 3)) (k : V x Q G cc own sh n cl sl (pc + 3) ls (aL z :: st) M) : V x Q G cc own sh n cl sl pc ls st M :=
  fun C H locs la hR hS hL => lv_ldc2 C.1 C.2.1 C.2.2.2.1 (C.2.2.2.2.1 _ hc) hd (by rw [hv]; exact k C H locs la hR hS hL)
theorem v_iload_n {kf : Fin 4} (j : Nat) {z : Int} (hd : decode cc pc = .ok (.iload_n kf, 1)) (hj : (kf : Nat) = j) (hl : ls[j]? = some (some (aI z))) (k : V x Q G cc own sh n cl sl (pc + 1) ls (aI z :: st) M) : V x Q G cc own sh n cl sl pc ls st M :=
  fun C H locs la hR hS hL => lv_iload_n C.1 C.2.1 hd hj (vls_at hL hl) (k C H locs la hR hS hL)
theorem v_iload {j : Nat} {z : Int} (hd : decode cc pc = .ok (.iload j, 2)) (hl : ls[j]? = some (some (aI z))) (k : V x Q G cc own sh n cl sl (pc + 2) ls (aI z :: st) M) : V x Q G cc own sh n cl sl pc ls st M :=
  fun C H locs la hR hS hL => lv_iload C.1 C.2.1 hd (vls_at hL hl) (k C H locs la hR hS hL)
theorem v_lload_n {kf : Fin 4} (j : Nat) {z : Int} (hd : decode cc pc = .ok (.lload_n kf, 1)) (hj : (kf : Nat) = j) (hl : ls[j]? = some (some (aL z))) (k : V x Q G cc own sh n cl sl (pc + 1) ls (aL z :: st) M) : V x Q G cc own sh n cl sl pc ls st M :=
  fun C H locs la hR hS hL => lv_lload_n C.1 C.2.1 hd hj (vls_at hL hl) (k C H locs la hR hS hL)
theorem v_lload {j : Nat} {z : Int} (hd : decode cc pc = .ok (.lload j, 2)) (hl : ls[j]? = some (some (aL z))) (k : V x Q G cc own sh n cl sl (pc + 2) ls (aL z :: st) M) : V x Q G cc own sh n cl sl pc ls st M :=
  fun C H locs la hR hS hL => lv_lload C.1 C.2.1 hd (vls_at hL hl) (k C H locs la hR hS hL)
theorem v_aload_n {kf : Fin 4} (j : Nat) {i : Nat} (hd : decode cc pc = .ok (.aload_n kf, 1)) (hj : (kf : Nat) = j) (hl : ls[j]? = some (some (aR (some i)))) (k : V x Q G cc own sh n cl sl (pc + 1) ls (aR (some i) :: st) M) : V x Q G cc own sh n cl sl pc ls st M :=
  fun C H locs la hR hS hL => lv_aload_n C.1 C.2.1 hd hj (vls_at hL hl) (k C H locs la hR hS hL)
theorem v_aload {j : Nat} {i : Nat} (hd : decode cc pc = .ok (.aload j, 2)) (hl : ls[j]? = some (some (aR (some i)))) (k : V x Q G cc own sh n cl sl (pc + 2) ls (aR (some i) :: st) M) : V x Q G cc own sh n cl sl pc ls st M :=
  fun C H locs la hR hS hL => lv_aload C.1 C.2.1 hd (vls_at hL hl) (k C H locs la hR hS hL)
theorem v_istore_n {j : Nat} {kf : Fin 4} (hj : (kf : Nat) = j) {z : Int} (hd : decode cc pc = .ok (.istore_n kf, 1)) (hi : j < ls.length) (hn : vnl ls j = true) (k : V x Q G cc own sh n cl sl (pc + 1) (ls.set j (some (aI z))) st M) : V x Q G cc own sh n cl sl pc ls (aI z :: st) M :=
  fun C H locs la hR hS hL => lv_istore_n C.1 C.2.1 hd hj hL hi rfl (fun la' h' => k (by rw [List.length_set]; exact C) H locs la' hR hS (vls_set (v := aI z) hn h'))
theorem v_istore {j : Nat} {z : Int} (hd : decode cc pc = .ok (.istore j, 2)) (hi : j < ls.length) (hn : vnl ls j = true) (k : V x Q G cc own sh n cl sl (pc + 2) (ls.set j (some (aI z))) st M) : V x Q G cc own sh n cl sl pc ls (aI z :: st) M :=
  fun C H locs la hR hS hL => lv_istore C.1 C.2.1 hd hL hi rfl (fun la' h' => k (by rw [List.length_set]; exact C) H locs la' hR hS (vls_set (v := aI z) hn h'))
theorem v_astore_n {j : Nat} {kf : Fin 4} (hj : (kf : Nat) = j) {i : Nat} (hd : decode cc pc = .ok (.astore_n kf, 1)) (hi : j < ls.length) (hn : vnl ls j = true) (k : V x Q G cc own sh n cl sl (pc + 1) (ls.set j (some (aR (some i)))) st M) : V x Q G cc own sh n cl sl pc ls (aR (some i) :: st) M :=
  fun C H locs la hR hS hL => lv_astore_n C.1 C.2.1 hd hj hL hi rfl (fun la' h' => k (by rw [List.length_set]; exact C) H locs la' hR hS (vls_set (v := aR (some i)) hn h'))
theorem v_astore {j : Nat} {i : Nat} (hd : decode cc pc = .ok (.astore j, 2)) (hi : j < ls.length) (hn : vnl ls j = true) (k : V x Q G cc own sh n cl sl (pc + 2) (ls.set j (some (aR (some i)))) st M) : V x Q G cc own sh n cl sl pc ls (aR (some i) :: st) M :=
  fun C H locs la hR hS hL => lv_astore C.1 C.2.1 hd hL hi rfl (fun la' h' => k (by rw [List.length_set]; exact C) H locs la' hR hS (vls_set (v := aR (some i)) hn h'))
theorem v_iinc {j : Nat} {z d : Int} (hd : decode cc pc = .ok (.iinc j d, 3)) (hl : ls[j]? = some (some (aI z))) (hn : vnl ls j = true) (k : V x Q G cc own sh n cl sl (pc + 3) (ls.set j (some (aI (z + d)))) st M) : V x Q G cc own sh n cl sl pc ls st M :=
  fun C H locs la hR hS hL => by
  have hi : j < ls.length := (List.getElem?_eq_some_iff.mp hl).1
  obtain ⟨w, hw⟩ : ∃ w, (vprs G 0 ls)[w]? = some (j, Value.int (Int32.ofInt z)) := by
    obtain ⟨w, hw⟩ := List.getElem?_of_mem (vprs_mem.mpr ⟨j, aI z, hl, rfl⟩ : (0 + j, vrv G (aI z)) ∈ vprs G 0 ls)
    exact ⟨w, by rw [hw]; simp [vrv]⟩
  exact lv_iinc (v := Int32.ofInt (z + d)) C.1 C.2.1 hd hL hw (by rw [Int32.ofInt_add]) hi rfl (fun la' h' => k (by rw [List.length_set]; exact C) H locs la' hR hS (vls_set (v := aI (z + d)) hn h'))
theorem v_iadd {a b : Int} (hd : decode cc pc = .ok (.iadd, 1)) (k : V x Q G cc own sh n cl sl (pc + 1) ls (aI (a + b) :: st) M) : V x Q G cc own sh n cl sl pc ls (aI b :: aI a :: st) M :=
  fun C H locs la hR hS hL => lv_iadd C.1 C.2.1 hd (by rw [← Int32.ofInt_add]; exact k C H locs la hR hS hL)
theorem v_isub {a b : Int} (hd : decode cc pc = .ok (.isub, 1)) (k : V x Q G cc own sh n cl sl (pc + 1) ls (aI (a - b) :: st) M) : V x Q G cc own sh n cl sl pc ls (aI b :: aI a :: st) M :=
  fun C H locs la hR hS hL => lv_isub C.1 C.2.1 hd (by rw [← Int32.ofInt_sub]; exact k C H locs la hR hS hL)
theorem v_imul {a b : Int} (hd : decode cc pc = .ok (.imul, 1)) (k : V x Q G cc own sh n cl sl (pc + 1) ls (aI (a * b) :: st) M) : V x Q G cc own sh n cl sl pc ls (aI b :: aI a :: st) M :=
  fun C H locs la hR hS hL => lv_imul C.1 C.2.1 hd (by rw [← Int32.ofInt_mul]; exact k C H locs la hR hS hL)
theorem v_ineg {a : Int} (hd : decode cc pc = .ok (.ineg, 1)) (k : V x Q G cc own sh n cl sl (pc + 1) ls (aI (-a) :: st) M) : V x Q G cc own sh n cl sl pc ls (aI a :: st) M :=
  fun C H locs la hR hS hL => lv_ineg C.1 C.2.1 hd (by rw [Int32.neg_ofInt]; exact k C H locs la hR hS hL)
theorem v_idiv {a b : Int} (hd : decode cc pc = .ok (.idiv, 1)) (ha : R32 a) (hb : R32 b) (h0 : b ≠ 0) (k : V x Q G cc own sh n cl sl (pc + 1) ls (aI (a.tdiv b) :: st) M) : V x Q G cc own sh n cl sl pc ls (aI b :: aI a :: st) M :=
  fun C H locs la hR hS hL => lv_idiv C.1 C.2.1 hd (by rw [i32_0, i32_eq hb i32_r0]; exact h0) (by rw [i32_div ha hb]; exact k C H locs la hR hS hL)
theorem v_irem {a b : Int} (hd : decode cc pc = .ok (.irem, 1)) (ha : R32 a) (hb : R32 b) (h0 : b ≠ 0) (k : V x Q G cc own sh n cl sl (pc + 1) ls (aI (a.tmod b) :: st) M) : V x Q G cc own sh n cl sl pc ls (aI b :: aI a :: st) M :=
  fun C H locs la hR hS hL => lv_irem C.1 C.2.1 hd (by rw [i32_0, i32_eq hb i32_r0]; exact h0) (by rw [i32_div ha hb, ← Int32.ofInt_mul, ← Int32.ofInt_sub, Int.mul_comm, ← Int.tmod_def]; exact k C H locs la hR hS hL)
theorem v_iand {a b : Int} (hd : decode cc pc = .ok (.iand, 1)) (k : V x Q G cc own sh n cl sl (pc + 1) ls (aI (vand a b) :: st) M) : V x Q G cc own sh n cl sl pc ls (aI b :: aI a :: st) M :=
  fun C H locs la hR hS hL => lv_iand C.1 C.2.1 hd (by have h := k C H locs la hR hS hL; simp only [List.map_cons, vrv, vand, Int32.ofInt_toInt] at h; exact h)
theorem v_ior {a b : Int} (hd : decode cc pc = .ok (.ior, 1)) (k : V x Q G cc own sh n cl sl (pc + 1) ls (aI (vor a b) :: st) M) : V x Q G cc own sh n cl sl pc ls (aI b :: aI a :: st) M :=
  fun C H locs la hR hS hL => lv_ior C.1 C.2.1 hd (by have h := k C H locs la hR hS hL; simp only [List.map_cons, vrv, vor, Int32.ofInt_toInt] at h; exact h)
theorem v_ixor {a b : Int} (hd : decode cc pc = .ok (.ixor, 1)) (k : V x Q G cc own sh n cl sl (pc + 1) ls (aI (vxor a b) :: st) M) : V x Q G cc own sh n cl sl pc ls (aI b :: aI a :: st) M :=
  fun C H locs la hR hS hL => lv_ixor C.1 C.2.1 hd (by have h := k C H locs la hR hS hL; simp only [List.map_cons, vrv, vxor, Int32.ofInt_toInt] at h; exact h)
theorem v_ishl {a b : Int} (hd : decode cc pc = .ok (.ishl, 1)) (k : V x Q G cc own sh n cl sl (pc + 1) ls (aI (vshl a b) :: st) M) : V x Q G cc own sh n cl sl pc ls (aI b :: aI a :: st) M :=
  fun C H locs la hR hS hL => lv_ishl C.1 C.2.1 hd (by have h := k C H locs la hR hS hL; simp only [List.map_cons, vrv, vshl, Int32.ofInt_toInt] at h; exact h)
theorem v_ishr {a b : Int} (hd : decode cc pc = .ok (.ishr, 1)) (k : V x Q G cc own sh n cl sl (pc + 1) ls (aI (vshr a b) :: st) M) : V x Q G cc own sh n cl sl pc ls (aI b :: aI a :: st) M :=
  fun C H locs la hR hS hL => lv_ishr C.1 C.2.1 hd (by have h := k C H locs la hR hS hL; simp only [List.map_cons, vrv, vshr, Int32.ofInt_toInt] at h; exact h)
theorem v_iushr {a b : Int} (hd : decode cc pc = .ok (.iushr, 1)) (k : V x Q G cc own sh n cl sl (pc + 1) ls (aI (vushr a b) :: st) M) : V x Q G cc own sh n cl sl pc ls (aI b :: aI a :: st) M :=
  fun C H locs la hR hS hL => lv_iushr C.1 C.2.1 hd rfl (by have h := k C H locs la hR hS hL; simp only [List.map_cons, vrv, vushr, Int32.ofInt_toInt] at h; exact h)
theorem v_i2l {a : Int} (hd : decode cc pc = .ok (.i2l, 1)) (k : V x Q G cc own sh n cl sl (pc + 1) ls (aL (vw a) :: st) M) : V x Q G cc own sh n cl sl pc ls (aI a :: st) M :=
  fun C H locs la hR hS hL => lv_i2l C.1 C.2.1 hd (Int64.ofInt_int32ToInt _).symm (k C H locs la hR hS hL)
theorem v_ladd {a b : Int} (hd : decode cc pc = .ok (.ladd, 1)) (k : V x Q G cc own sh n cl sl (pc + 1) ls (aL (a + b) :: st) M) : V x Q G cc own sh n cl sl pc ls (aL b :: aL a :: st) M :=
  fun C H locs la hR hS hL => lv_ladd C.1 C.2.1 hd (by rw [← Int64.ofInt_add]; exact k C H locs la hR hS hL)
theorem v_lmul {a b : Int} (hd : decode cc pc = .ok (.lmul, 1)) (k : V x Q G cc own sh n cl sl (pc + 1) ls (aL (a * b) :: st) M) : V x Q G cc own sh n cl sl pc ls (aL b :: aL a :: st) M :=
  fun C H locs la hR hS hL => lv_lmul C.1 C.2.1 hd (by rw [← Int64.ofInt_mul]; exact k C H locs la hR hS hL)
theorem v_dup {a : AV} (hd : decode cc pc = .ok (.dup, 1)) (ha : vcat a = 1) (k : V x Q G cc own sh n cl sl (pc + 1) ls (a :: a :: st) M) : V x Q G cc own sh n cl sl pc ls (a :: st) M :=
  fun C H locs la hR hS hL => lv_dup C.1 C.2.1 hd ((vrv_cat G a).trans ha) (k C H locs la hR hS hL)
theorem v_pop {a : AV} (hd : decode cc pc = .ok (.pop, 1)) (ha : vcat a = 1) (k : V x Q G cc own sh n cl sl (pc + 1) ls st M) : V x Q G cc own sh n cl sl pc ls (a :: st) M :=
  fun C H locs la hR hS hL => lv_pop C.1 C.2.1 hd ((vrv_cat G a).trans ha) (k C H locs la hR hS hL)
theorem v_dup_x1 {a b : AV} (hd : decode cc pc = .ok (.dup_x1, 1)) (ha : vcat a = 1) (hb : vcat b = 1) (k : V x Q G cc own sh n cl sl (pc + 1) ls (a :: b :: a :: st) M) : V x Q G cc own sh n cl sl pc ls (a :: b :: st) M :=
  fun C H locs la hR hS hL => lv_dup_x1 C.1 C.2.1 hd ((vrv_cat G a).trans ha) ((vrv_cat G b).trans hb) (k C H locs la hR hS hL)
theorem v_dup2 {a b : AV} (hd : decode cc pc = .ok (.dup2, 1)) (ha : vcat a = 1) (hb : vcat b = 1) (k : V x Q G cc own sh n cl sl (pc + 1) ls (a :: b :: a :: b :: st) M) : V x Q G cc own sh n cl sl pc ls (a :: b :: st) M :=
  fun C H locs la hR hS hL => lv_dup2_11 C.1 C.2.1 hd ((vrv_cat G a).trans ha) ((vrv_cat G b).trans hb) (k C H locs la hR hS hL)
theorem v_icmp_eq {a b off : Int} (tgt : Nat) (hd : decode cc pc = .ok (.if_icmp .eq off, 3)) (ht : (pc : Int) + off = (tgt : Int)) (ha : R32 a) (hb : R32 b)
    (kt : a = b → V x Q G cc own sh n cl sl tgt ls st M) (kf : ¬ a = b → V x Q G cc own sh n cl sl (pc + 3) ls st M) : V x Q G cc own sh n cl sl pc ls (aI b :: aI a :: st) M :=
  fun C H locs la hR hS hL => lv_icmp_eq C.1 C.2.1 hd ht (fun h => kt (by simp only [gt_iff_lt, ge_iff_le, ne_eq, i32_eq ha hb, i32_lt ha hb, i32_lt hb ha, i32_le ha hb, i32_le hb ha, Int.not_lt, Int.not_le, Decidable.not_not] at h; exact h) C H locs la hR hS hL) (fun h => kf (by simp only [gt_iff_lt, ge_iff_le, ne_eq, i32_eq ha hb, i32_lt ha hb, i32_lt hb ha, i32_le ha hb, i32_le hb ha, Int.not_lt, Int.not_le, Decidable.not_not] at h; exact h) C H locs la hR hS hL)
theorem v_if_eq {a off : Int} (tgt : Nat) (hd : decode cc pc = .ok (.ifCond .eq off, 3)) (ht : (pc : Int) + off = (tgt : Int)) (ha : R32 a)
    (kt : a = 0 → V x Q G cc own sh n cl sl tgt ls st M) (kf : ¬ a = 0 → V x Q G cc own sh n cl sl (pc + 3) ls st M) : V x Q G cc own sh n cl sl pc ls (aI a :: st) M :=
  fun C H locs la hR hS hL => lv_if_eq C.1 C.2.1 hd ht (fun h => kt (by rw [i32_0] at h; simp only [gt_iff_lt, ge_iff_le, ne_eq, i32_eq ha i32_r0, i32_lt ha i32_r0, i32_lt i32_r0 ha, i32_le ha i32_r0, i32_le i32_r0 ha, Int.not_lt, Int.not_le, Decidable.not_not] at h; exact h) C H locs la hR hS hL) (fun h => kf (by rw [i32_0] at h; simp only [gt_iff_lt, ge_iff_le, ne_eq, i32_eq ha i32_r0, i32_lt ha i32_r0, i32_lt i32_r0 ha, i32_le ha i32_r0, i32_le i32_r0 ha, Int.not_lt, Int.not_le, Decidable.not_not] at h; exact h) C H locs la hR hS hL)
theorem v_icmp_ne {a b off : Int} (tgt : Nat) (hd : decode cc pc = .ok (.if_icmp .ne off, 3)) (ht : (pc : Int) + off = (tgt : Int)) (ha : R32 a) (hb : R32 b)
    (kt : ¬ a = b → V x Q G cc own sh n cl sl tgt ls st M) (kf : a = b → V x Q G cc own sh n cl sl (pc + 3) ls st M) : V x Q G cc own sh n cl sl pc ls (aI b :: aI a :: st) M :=
  fun C H locs la hR hS hL => lv_icmp_ne C.1 C.2.1 hd ht (fun h => kt (by simp only [gt_iff_lt, ge_iff_le, ne_eq, i32_eq ha hb, i32_lt ha hb, i32_lt hb ha, i32_le ha hb, i32_le hb ha, Int.not_lt, Int.not_le, Decidable.not_not] at h; exact h) C H locs la hR hS hL) (fun h => kf (by simp only [gt_iff_lt, ge_iff_le, ne_eq, i32_eq ha hb, i32_lt ha hb, i32_lt hb ha, i32_le ha hb, i32_le hb ha, Int.not_lt, Int.not_le, Decidable.not_not] at h; exact h) C H locs la hR hS hL)
theorem v_if_ne {a off : Int} (tgt : Nat) (hd : decode cc pc = .ok (.ifCond .ne off, 3)) (ht : (pc : Int) + off = (tgt : Int)) (ha : R32 a)
    (kt : ¬ a = 0 → V x Q G cc own sh n cl sl tgt ls st M) (kf : a = 0 → V x Q G cc own sh n cl sl (pc + 3) ls st M) : V x Q G cc own sh n cl sl pc ls (aI a :: st) M :=
  fun C H locs la hR hS hL => lv_if_ne C.1 C.2.1 hd ht (fun h => kt (by rw [i32_0] at h; simp only [gt_iff_lt, ge_iff_le, ne_eq, i32_eq ha i32_r0, i32_lt ha i32_r0, i32_lt i32_r0 ha, i32_le ha i32_r0, i32_le i32_r0 ha, Int.not_lt, Int.not_le, Decidable.not_not] at h; exact h) C H locs la hR hS hL) (fun h => kf (by rw [i32_0] at h; simp only [gt_iff_lt, ge_iff_le, ne_eq, i32_eq ha i32_r0, i32_lt ha i32_r0, i32_lt i32_r0 ha, i32_le ha i32_r0, i32_le i32_r0 ha, Int.not_lt, Int.not_le, Decidable.not_not] at h; exact h) C H locs la hR hS hL)
theorem v_icmp_lt {a b off : Int} (tgt : Nat) (hd : decode cc pc = .ok (.if_icmp .lt off, 3)) (ht : (pc : Int) + off = (tgt : Int)) (ha : R32 a) (hb : R32 b)
    (kt : a < b → V x Q G cc own sh n cl sl tgt ls st M) (kf : b ≤ a → V x Q G cc own sh n cl sl (pc + 3) ls st M) : V x Q G cc own sh n cl sl pc ls (aI b :: aI a :: st) M :=
  fun C H locs la hR hS hL => lv_icmp_lt C.1 C.2.1 hd ht (fun h => kt (by simp only [gt_iff_lt, ge_iff_le, ne_eq, i32_eq ha hb, i32_lt ha hb, i32_lt hb ha, i32_le ha hb, i32_le hb ha, Int.not_lt, Int.not_le, Decidable.not_not] at h; exact h) C H locs la hR hS hL) (fun h => kf (by simp only [gt_iff_lt, ge_iff_le, ne_eq, i32_eq ha hb, i32_lt ha hb, i32_lt hb ha, i32_le ha hb, i32_le hb ha, Int.not_lt, Int.not_le, Decidable.not_not] at h; exact h) C H locs la hR hS hL)
theorem v_if_lt {a off : Int} (tgt : Nat) (hd : decode cc pc = .ok (.ifCond .lt off, 3)) (ht : (pc : Int) + off = (tgt : Int)) (ha : R32 a)
    (kt : a < 0 → V x Q G cc own sh n cl sl tgt ls st M) (kf : 0 ≤ a → V x Q G cc own sh n cl sl (pc + 3) ls st M) : V x Q G cc own sh n cl sl pc ls (aI a :: st) M :=
  fun C H locs la hR hS hL => lv_if_lt C.1 C.2.1 hd ht (fun h => kt (by rw [i32_0] at h; simp only [gt_iff_lt, ge_iff_le, ne_eq, i32_eq ha i32_r0, i32_lt ha i32_r0, i32_lt i32_r0 ha, i32_le ha i32_r0, i32_le i32_r0 ha, Int.not_lt, Int.not_le, Decidable.not_not] at h; exact h) C H locs la hR hS hL) (fun h => kf (by rw [i32_0] at h; simp only [gt_iff_lt, ge_iff_le, ne_eq, i32_eq ha i32_r0, i32_lt ha i32_r0, i32_lt i32_r0 ha, i32_le ha i32_r0, i32_le i32_r0 ha, Int.not_lt, Int.not_le, Decidable.not_not] at h; exact h) C H locs la hR hS hL)
theorem v_icmp_ge {a b off : Int} (tgt : Nat) (hd : decode cc pc = .ok (.if_icmp .ge off, 3)) (ht : (pc : Int) + off = (tgt : Int)) (ha : R32 a) (hb : R32 b)
    (kt : b ≤ a → V x Q G cc own sh n cl sl tgt ls st M) (kf : a < b → V x Q G cc own sh n cl sl (pc + 3) ls st M) : V x Q G cc own sh n cl sl pc ls (aI b :: aI a :: st) M :=
  fun C H locs la hR hS hL => lv_icmp_ge C.1 C.2.1 hd ht (fun h => kt (by simp only [gt_iff_lt, ge_iff_le, ne_eq, i32_eq ha hb, i32_lt ha hb, i32_lt hb ha, i32_le ha hb, i32_le hb ha, Int.not_lt, Int.not_le, Decidable.not_not] at h; exact h) C H locs la hR hS hL) (fun h => kf (by simp only [gt_iff_lt, ge_iff_le, ne_eq, i32_eq ha hb, i32_lt ha hb, i32_lt hb ha, i32_le ha hb, i32_le hb ha, Int.not_lt, Int.not_le, Decidable.not_not] at h; exact h) C H locs la hR hS hL)
theorem v_if_ge {a off : Int} (tgt : Nat) (hd : decode cc pc = .ok (.ifCond .ge off, 3)) (ht : (pc : Int) + off = (tgt : Int)) (ha : R32 a)
    (kt : 0 ≤ a → V x Q G cc own sh n cl sl tgt ls st M) (kf : a < 0 → V x Q G cc own sh n cl sl (pc + 3) ls st M) : V x Q G cc own sh n cl sl pc ls (aI a :: st) M :=
  fun C H locs la hR hS hL => lv_if_ge C.1 C.2.1 hd ht (fun h => kt (by rw [i32_0] at h; simp only [gt_iff_lt, ge_iff_le, ne_eq, i32_eq ha i32_r0, i32_lt ha i32_r0, i32_lt i32_r0 ha, i32_le ha i32_r0, i32_le i32_r0 ha, Int.not_lt, Int.not_le, Decidable.not_not] at h; exact h) C H locs la hR hS hL) (fun h => kf (by rw [i32_0] at h; simp only [gt_iff_lt, ge_iff_le, ne_eq, i32_eq ha i32_r0, i32_lt ha i32_r0, i32_lt i32_r0 ha, i32_le ha i32_r0, i32_le i32_r0 ha, Int.not_lt, Int.not_le, Decidable.not_not] at h; exact h) C H locs la hR hS hL)
theorem v_icmp_gt {a b off : Int} (tgt : Nat) (hd : decode cc pc = .ok (.if_icmp .gt off, 3)) (ht : (pc : Int) + off = (tgt : Int)) (ha : R32 a) (hb : R32 b)
    (kt : b < a → V x Q G cc own sh n cl sl tgt ls st M) (kf : a ≤ b → V x Q G cc own sh n cl sl (pc + 3) ls st M) : V x Q G cc own sh n cl sl pc ls (aI b :: aI a :: st) M :=
  fun C H locs la hR hS hL => lv_icmp_gt C.1 C.2.1 hd ht (fun h => kt (by simp only [gt_iff_lt, ge_iff_le, ne_eq, i32_eq ha hb, i32_lt ha hb, i32_lt hb ha, i32_le ha hb, i32_le hb ha, Int.not_lt, Int.not_le, Decidable.not_not] at h; exact h) C H locs la hR hS hL) (fun h => kf (by simp only [gt_iff_lt, ge_iff_le, ne_eq, i32_eq ha hb, i32_lt ha hb, i32_lt hb ha, i32_le ha hb, i32_le hb ha, Int.not_lt, Int.not_le, Decidable.not_not] at h; exact h) C H locs la hR hS hL)
theorem v_if_gt {a off : Int} (tgt : Nat) (hd : decode cc pc = .ok (.ifCond .gt off, 3)) (ht : (pc : Int) + off = (tgt : Int)) (ha : R32 a)
    (kt : 0 < a → V x Q G cc own sh n cl sl tgt ls st M) (kf : a ≤ 0 → V x Q G cc own sh n cl sl (pc + 3) ls st M) : V x Q G cc own sh n cl sl pc ls (aI a :: st) M :=
  fun C H locs la hR hS hL => lv_if_gt C.1 C.2.1 hd ht (fun h => kt (by rw [i32_0] at h; simp only [gt_iff_lt, ge_iff_le, ne_eq, i32_eq ha i32_r0, i32_lt ha i32_r0, i32_lt i32_r0 ha, i32_le ha i32_r0, i32_le i32_r0 ha, Int.not_lt, Int.not_le, Decidable.not_not] at h; exact h) C H locs la hR hS hL) (fun h => kf (by rw [i32_0] at h; simp only [gt_iff_lt, ge_iff_le, ne_eq, i32_eq ha i32_r0, i32_lt ha i32_r0, i32_lt i32_r0 ha, i32_le ha i32_r0, i32_le i32_r0 ha, Int.not_lt, Int.not_le, Decidable.not_not] at h; exact h) C H locs la hR hS hL)
theorem v_icmp_le {a b off : Int} (tgt : Nat) (hd : decode cc pc = .ok (.if_icmp .le off, 3)) (ht : (pc : Int) + off = (tgt : Int)) (ha : R32 a) (hb : R32 b)
    (kt : a ≤ b → V x Q G cc own sh n cl sl tgt ls st M) (kf : b < a → V x Q G cc own sh n cl sl (pc + 3) ls st M) : V x Q G cc own sh n cl sl pc ls (aI b :: aI a :: st) M :=
  fun C H locs la hR hS hL => lv_icmp_le C.1 C.2.1 hd ht (fun h => kt (by simp only [gt_iff_lt, ge_iff_le, ne_eq, i32_eq ha hb, i32_lt ha hb, i32_lt hb ha, i32_le ha hb, i32_le hb ha, Int.not_lt, Int.not_le, Decidable.not_not] at h; exact h) C H locs la hR hS hL) (fun h => kf (by simp only [gt_iff_lt, ge_iff_le, ne_eq, i32_eq ha hb, i32_lt ha hb, i32_lt hb ha, i32_le ha hb, i32_le hb ha, Int.not_lt, Int.not_le, Decidable.not_not] at h; exact h) C H locs la hR hS hL)
theorem v_if_le {a off : Int} (tgt : Nat) (hd : decode cc pc = .ok (.ifCond .le off, 3)) (ht : (pc : Int) + off = (tgt : Int)) (ha : R32 a)
    (kt : a ≤ 0 → V x Q G cc own sh n cl sl tgt ls st M) (kf : 0 < a → V x Q G cc own sh n cl sl (pc + 3) ls st M) : V x Q G cc own sh n cl sl pc ls (aI a :: st) M :=
  fun C H locs la hR hS hL => lv_if_le C.1 C.2.1 hd ht (fun h => kt (by rw [i32_0] at h; simp only [gt_iff_lt, ge_iff_le, ne_eq, i32_eq ha i32_r0, i32_lt ha i32_r0, i32_lt i32_r0 ha, i32_le ha i32_r0, i32_le i32_r0 ha, Int.not_lt, Int.not_le, Decidable.not_not] at h; exact h) C H locs la hR hS hL) (fun h => kf (by rw [i32_0] at h; simp only [gt_iff_lt, ge_iff_le, ne_eq, i32_eq ha i32_r0, i32_lt ha i32_r0, i32_lt i32_r0 ha, i32_le ha i32_r0, i32_le i32_r0 ha, Int.not_lt, Int.not_le, Decidable.not_not] at h; exact h) C H locs la hR hS hL)
theorem v_goto {off : Int} (tgt : Nat) (hd : decode cc pc = .ok (.goto off, 3)) (ht : (pc : Int) + off = (tgt : Int)) (k : V x Q G cc own sh n cl sl tgt ls st M) : V x Q G cc own sh n cl sl pc ls st M :=
  fun C H locs la hR hS hL => lv_goto C.1 C.2.1 hd ht (k C H locs la hR hS hL)
theorem v_ifnull {off : Int} {i : Nat} (hd : decode cc pc = .ok (.ifnull off, 3)) (k : V x Q G cc own sh n cl sl (pc + 3) ls st M) : V x Q G cc own sh n cl sl pc ls (aR (some i) :: st) M :=
  fun C H locs la hR hS hL => lv_ifnull C.1 C.2.1 hd (k C H locs la hR hS hL)
theorem v_tableIn {dflt lo hi off z : Int} {offs : Array Int} {len : Nat} (tgt : Nat) (hd : decode cc pc = .ok (.tableswitch dflt lo hi offs, len)) (hz : R32 z) (h1 : lo ≤ z) (h2 : z ≤ hi) (ho : offs[(z - lo).toNat]? = some off) (ht : (pc : Int) + off = (tgt : Int))
    (k : V x Q G cc own sh n cl sl tgt ls st M) : V x Q G cc own sh n cl sl pc ls (aI z :: st) M :=
  fun C H locs la hR hS hL => lv_tableIn C.1 C.2.1 hd (by rw [show (Int32.ofInt z).toInt = z from vw_in hz]; omega) (by rw [show (Int32.ofInt z).toInt = z from vw_in hz]; omega) (by rw [show (Int32.ofInt z).toInt = z from vw_in hz]; exact ho) ht (k C H locs la hR hS hL)
theorem v_tableOut {dflt lo hi z : Int} {offs : Array Int} {len : Nat} (tgt : Nat) (hd : decode cc pc = .ok (.tableswitch dflt lo hi offs, len)) (hz : R32 z) (h : z < lo ∨ hi < z) (ht : (pc : Int) + dflt = (tgt : Int))
    (k : V x Q G cc own sh n cl sl tgt ls st M) : V x Q G cc own sh n cl sl pc ls (aI z :: st) M :=
  fun C H locs la hR hS hL => lv_tableOut C.1 C.2.1 hd (by rw [show (Int32.ofInt z).toInt = z from vw_in hz]; exact h) ht (k C H locs la hR hS hL)
theorem v_lookup {dflt off z : Int} {ps : Array (Int × Int)} {len : Nat} (tgt : Nat) (hd : decode cc pc = .ok (.lookupswitch dflt ps, len)) (hp : (ps.toList.zip (ps.toList.drop 1)).all (fun (a, next) => a.1 < next.1) = true) (hz : R32 z) (ho : Op.lookupswitch.offset ps.toList dflt z = off) (ht : (pc : Int) + off = (tgt : Int))
    (k : V x Q G cc own sh n cl sl tgt ls st M) : V x Q G cc own sh n cl sl pc ls (aI z :: st) M :=
  fun C H locs la hR hS hL => lv_lookup C.1 C.2.1 hd hp (by rw [show (Int32.ofInt z).toInt = z from vw_in hz]; exact ho) ht (k C H locs la hR hS hL)
theorem v_ist0 {a0 : Option AV} {r : List (Option AV)} {z : Int} (hd : decode cc pc = .ok (.istore_n 0, 1)) (k : V x Q G cc own sh n cl sl (pc + 1) (some (aI z) :: r) st M) : V x Q G cc own sh n cl sl pc (a0 :: r) (aI z :: st) M :=
  v_istore_n (j := 0) rfl hd (by simp) rfl k
theorem v_ist1 {a0 a1 : Option AV} {r : List (Option AV)} {z : Int} (hd : decode cc pc = .ok (.istore_n 1, 1)) (hn : vnl1 a0 = true) (k : V x Q G cc own sh n cl sl (pc + 1) (a0 :: some (aI z) :: r) st M) : V x Q G cc own sh n cl sl pc (a0 :: a1 :: r) (aI z :: st) M :=
  v_istore_n (j := 1) rfl hd (by simp) (by exact hn) k
theorem v_ist2 {a0 a1 a2 : Option AV} {r : List (Option AV)} {z : Int} (hd : decode cc pc = .ok (.istore_n 2, 1)) (hn : vnl1 a1 = true) (k : V x Q G cc own sh n cl sl (pc + 1) (a0 :: a1 :: some (aI z) :: r) st M) : V x Q G cc own sh n cl sl pc (a0 :: a1 :: a2 :: r) (aI z :: st) M :=
  v_istore_n (j := 2) rfl hd (by simp) (by exact hn) k
theorem v_ist3 {a0 a1 a2 a3 : Option AV} {r : List (Option AV)} {z : Int} (hd : decode cc pc = .ok (.istore_n 3, 1)) (hn : vnl1 a2 = true) (k : V x Q G cc own sh n cl sl (pc + 1) (a0 :: a1 :: a2 :: some (aI z) :: r) st M) : V x Q G cc own sh n cl sl pc (a0 :: a1 :: a2 :: a3 :: r) (aI z :: st) M :=
  v_istore_n (j := 3) rfl hd (by simp) (by exact hn) k
theorem v_ist4 {a0 a1 a2 a3 a4 : Option AV} {r : List (Option AV)} {z : Int} (hd : decode cc pc = .ok (.istore 4, 2)) (hn : vnl1 a3 = true) (k : V x Q G cc own sh n cl sl (pc + 2) (a0 :: a1 :: a2 :: a3 :: some (aI z) :: r) st M) : V x Q G cc own sh n cl sl pc (a0 :: a1 :: a2 :: a3 :: a4 :: r) (aI z :: st) M :=
  v_istore (j := 4) hd (by simp) (by exact hn) k
theorem v_ist5 {a0 a1 a2 a3 a4 a5 : Option AV} {r : List (Option AV)} {z : Int} (hd : decode cc pc = .ok (.istore 5, 2)) (hn : vnl1 a4 = true) (k : V x Q G cc own sh n cl sl (pc + 2) (a0 :: a1 :: a2 :: a3 :: a4 :: some (aI z) :: r) st M) : V x Q G cc own sh n cl sl pc (a0 :: a1 :: a2 :: a3 :: a4 :: a5 :: r) (aI z :: st) M :=
  v_istore (j := 5) hd (by simp) (by exact hn) k
theorem v_ist6 {a0 a1 a2 a3 a4 a5 a6 : Option AV} {r : List (Option AV)} {z : Int} (hd : decode cc pc = .ok (.istore 6, 2)) (hn : vnl1 a5 = true) (k : V x Q G cc own sh n cl sl (pc + 2) (a0 :: a1 :: a2 :: a3 :: a4 :: a5 :: some (aI z) :: r) st M) : V x Q G cc own sh n cl sl pc (a0 :: a1 :: a2 :: a3 :: a4 :: a5 :: a6 :: r) (aI z :: st) M :=
  v_istore (j := 6) hd (by simp) (by exact hn) k
theorem v_ist7 {a0 a1 a2 a3 a4 a5 a6 a7 : Option AV} {r : List (Option AV)} {z : Int} (hd : decode cc pc = .ok (.istore 7, 2)) (hn : vnl1 a6 = true) (k : V x Q G cc own sh n cl sl (pc + 2) (a0 :: a1 :: a2 :: a3 :: a4 :: a5 :: a6 :: some (aI z) :: r) st M) : V x Q G cc own sh n cl sl pc (a0 :: a1 :: a2 :: a3 :: a4 :: a5 :: a6 :: a7 :: r) (aI z :: st) M :=
  v_istore (j := 7) hd (by simp) (by exact hn) k
theorem v_ist8 {a0 a1 a2 a3 a4 a5 a6 a7 a8 : Option AV} {r : List (Option AV)} {z : Int} (hd : decode cc pc = .ok (.istore 8, 2)) (hn : vnl1 a7 = true) (k : V x Q G cc own sh n cl sl (pc + 2) (a0 :: a1 :: a2 :: a3 :: a4 :: a5 :: a6 :: a7 :: some (aI z) :: r) st M) : V x Q G cc own sh n cl sl pc (a0 :: a1 :: a2 :: a3 :: a4 :: a5 :: a6 :: a7 :: a8 :: r) (aI z :: st) M :=
  v_istore (j := 8) hd (by simp) (by exact hn) k
theorem v_ist9 {a0 a1 a2 a3 a4 a5 a6 a7 a8 a9 : Option AV} {r : List (Option AV)} {z : Int} (hd : decode cc pc = .ok (.istore 9, 2)) (hn : vnl1 a8 = true) (k : V x Q G cc own sh n cl sl (pc + 2) (a0 :: a1 :: a2 :: a3 :: a4 :: a5 :: a6 :: a7 :: a8 :: some (aI z) :: r) st M) : V x Q G cc own sh n cl sl pc (a0 :: a1 :: a2 :: a3 :: a4 :: a5 :: a6 :: a7 :: a8 :: a9 :: r) (aI z :: st) M :=
  v_istore (j := 9) hd (by simp) (by exact hn) k
theorem v_ist10 {a0 a1 a2 a3 a4 a5 a6 a7 a8 a9 a10 : Option AV} {r : List (Option AV)} {z : Int} (hd : decode cc pc = .ok (.istore 10, 2)) (hn : vnl1 a9 = true) (k : V x Q G cc own sh n cl sl (pc + 2) (a0 :: a1 :: a2 :: a3 :: a4 :: a5 :: a6 :: a7 :: a8 :: a9 :: some (aI z) :: r) st M) : V x Q G cc own sh n cl sl pc (a0 :: a1 :: a2 :: a3 :: a4 :: a5 :: a6 :: a7 :: a8 :: a9 :: a10 :: r) (aI z :: st) M :=
  v_istore (j := 10) hd (by simp) (by exact hn) k
theorem v_ist11 {a0 a1 a2 a3 a4 a5 a6 a7 a8 a9 a10 a11 : Option AV} {r : List (Option AV)} {z : Int} (hd : decode cc pc = .ok (.istore 11, 2)) (hn : vnl1 a10 = true) (k : V x Q G cc own sh n cl sl (pc + 2) (a0 :: a1 :: a2 :: a3 :: a4 :: a5 :: a6 :: a7 :: a8 :: a9 :: a10 :: some (aI z) :: r) st M) : V x Q G cc own sh n cl sl pc (a0 :: a1 :: a2 :: a3 :: a4 :: a5 :: a6 :: a7 :: a8 :: a9 :: a10 :: a11 :: r) (aI z :: st) M :=
  v_istore (j := 11) hd (by simp) (by exact hn) k
theorem v_ist12 {a0 a1 a2 a3 a4 a5 a6 a7 a8 a9 a10 a11 a12 : Option AV} {r : List (Option AV)} {z : Int} (hd : decode cc pc = .ok (.istore 12, 2)) (hn : vnl1 a11 = true) (k : V x Q G cc own sh n cl sl (pc + 2) (a0 :: a1 :: a2 :: a3 :: a4 :: a5 :: a6 :: a7 :: a8 :: a9 :: a10 :: a11 :: some (aI z) :: r) st M) : V x Q G cc own sh n cl sl pc (a0 :: a1 :: a2 :: a3 :: a4 :: a5 :: a6 :: a7 :: a8 :: a9 :: a10 :: a11 :: a12 :: r) (aI z :: st) M :=
  v_istore (j := 12) hd (by simp) (by exact hn) k
theorem v_ist13 {a0 a1 a2 a3 a4 a5 a6 a7 a8 a9 a10 a11 a12 a13 : Option AV} {r : List (Option AV)} {z : Int} (hd : decode cc pc = .ok (.istore 13, 2)) (hn : vnl1 a12 = true) (k : V x Q G cc own sh n cl sl (pc + 2) (a0 :: a1 :: a2 :: a3 :: a4 :: a5 :: a6 :: a7 :: a8 :: a9 :: a10 :: a11 :: a12 :: some (aI z) :: r) st M) : V x Q G cc own sh n cl sl pc (a0 :: a1 :: a2 :: a3 :: a4 :: a5 :: a6 :: a7 :: a8 :: a9 :: a10 :: a11 :: a12 :: a13 :: r) (aI z :: st) M :=
  v_istore (j := 13) hd (by simp) (by exact hn) k
theorem v_ast0 {a0 : Option AV} {r : List (Option AV)} {i : Nat} (hd : decode cc pc = .ok (.astore_n 0, 1)) (k : V x Q G cc own sh n cl sl (pc + 1) (some (aR (some i)) :: r) st M) : V x Q G cc own sh n cl sl pc (a0 :: r) (aR (some i) :: st) M :=
  v_astore_n (j := 0) rfl hd (by simp) rfl k
theorem v_ast1 {a0 a1 : Option AV} {r : List (Option AV)} {i : Nat} (hd : decode cc pc = .ok (.astore_n 1, 1)) (hn : vnl1 a0 = true) (k : V x Q G cc own sh n cl sl (pc + 1) (a0 :: some (aR (some i)) :: r) st M) : V x Q G cc own sh n cl sl pc (a0 :: a1 :: r) (aR (some i) :: st) M :=
  v_astore_n (j := 1) rfl hd (by simp) (by exact hn) k
theorem v_ast2 {a0 a1 a2 : Option AV} {r : List (Option AV)} {i : Nat} (hd : decode cc pc = .ok (.astore_n 2, 1)) (hn : vnl1 a1 = true) (k : V x Q G cc own sh n cl sl (pc + 1) (a0 :: a1 :: some (aR (some i)) :: r) st M) : V x Q G cc own sh n cl sl pc (a0 :: a1 :: a2 :: r) (aR (some i) :: st) M :=
  v_astore_n (j := 2) rfl hd (by simp) (by exact hn) k
theorem v_ast3 {a0 a1 a2 a3 : Option AV} {r : List (Option AV)} {i : Nat} (hd : decode cc pc = .ok (.astore_n 3, 1)) (hn : vnl1 a2 = true) (k : V x Q G cc own sh n cl sl (pc + 1) (a0 :: a1 :: a2 :: some (aR (some i)) :: r) st M) : V x Q G cc own sh n cl sl pc (a0 :: a1 :: a2 :: a3 :: r) (aR (some i) :: st) M :=
  v_astore_n (j := 3) rfl hd (by simp) (by exact hn) k
theorem v_ast4 {a0 a1 a2 a3 a4 : Option AV} {r : List (Option AV)} {i : Nat} (hd : decode cc pc = .ok (.astore 4, 2)) (hn : vnl1 a3 = true) (k : V x Q G cc own sh n cl sl (pc + 2) (a0 :: a1 :: a2 :: a3 :: some (aR (some i)) :: r) st M) : V x Q G cc own sh n cl sl pc (a0 :: a1 :: a2 :: a3 :: a4 :: r) (aR (some i) :: st) M :=
  v_astore (j := 4) hd (by simp) (by exact hn) k
theorem v_ast5 {a0 a1 a2 a3 a4 a5 : Option AV} {r : List (Option AV)} {i : Nat} (hd : decode cc pc = .ok (.astore 5, 2)) (hn : vnl1 a4 = true) (k : V x Q G cc own sh n cl sl (pc + 2) (a0 :: a1 :: a2 :: a3 :: a4 :: some (aR (some i)) :: r) st M) : V x Q G cc own sh n cl sl pc (a0 :: a1 :: a2 :: a3 :: a4 :: a5 :: r) (aR (some i) :: st) M :=
  v_astore (j := 5) hd (by simp) (by exact hn) k
theorem v_ast6 {a0 a1 a2 a3 a4 a5 a6 : Option AV} {r : List (Option AV)} {i : Nat} (hd : decode cc pc = .ok (.astore 6, 2)) (hn : vnl1 a5 = true) (k : V x Q G cc own sh n cl sl (pc + 2) (a0 :: a1 :: a2 :: a3 :: a4 :: a5 :: some (aR (some i)) :: r) st M) : V x Q G cc own sh n cl sl pc (a0 :: a1 :: a2 :: a3 :: a4 :: a5 :: a6 :: r) (aR (some i) :: st) M :=
  v_astore (j := 6) hd (by simp) (by exact hn) k
theorem v_ast7 {a0 a1 a2 a3 a4 a5 a6 a7 : Option AV} {r : List (Option AV)} {i : Nat} (hd : decode cc pc = .ok (.astore 7, 2)) (hn : vnl1 a6 = true) (k : V x Q G cc own sh n cl sl (pc + 2) (a0 :: a1 :: a2 :: a3 :: a4 :: a5 :: a6 :: some (aR (some i)) :: r) st M) : V x Q G cc own sh n cl sl pc (a0 :: a1 :: a2 :: a3 :: a4 :: a5 :: a6 :: a7 :: r) (aR (some i) :: st) M :=
  v_astore (j := 7) hd (by simp) (by exact hn) k
theorem v_ast8 {a0 a1 a2 a3 a4 a5 a6 a7 a8 : Option AV} {r : List (Option AV)} {i : Nat} (hd : decode cc pc = .ok (.astore 8, 2)) (hn : vnl1 a7 = true) (k : V x Q G cc own sh n cl sl (pc + 2) (a0 :: a1 :: a2 :: a3 :: a4 :: a5 :: a6 :: a7 :: some (aR (some i)) :: r) st M) : V x Q G cc own sh n cl sl pc (a0 :: a1 :: a2 :: a3 :: a4 :: a5 :: a6 :: a7 :: a8 :: r) (aR (some i) :: st) M :=
  v_astore (j := 8) hd (by simp) (by exact hn) k
theorem v_ast9 {a0 a1 a2 a3 a4 a5 a6 a7 a8 a9 : Option AV} {r : List (Option AV)} {i : Nat} (hd : decode cc pc = .ok (.astore 9, 2)) (hn : vnl1 a8 = true) (k : V x Q G cc own sh n cl sl (pc + 2) (a0 :: a1 :: a2 :: a3 :: a4 :: a5 :: a6 :: a7 :: a8 :: some (aR (some i)) :: r) st M) : V x Q G cc own sh n cl sl pc (a0 :: a1 :: a2 :: a3 :: a4 :: a5 :: a6 :: a7 :: a8 :: a9 :: r) (aR (some i) :: st) M :=
  v_astore (j := 9) hd (by simp) (by exact hn) k
theorem v_ast10 {a0 a1 a2 a3 a4 a5 a6 a7 a8 a9 a10 : Option AV} {r : List (Option AV)} {i : Nat} (hd : decode cc pc = .ok (.astore 10, 2)) (hn : vnl1 a9 = true) (k : V x Q G cc own sh n cl sl (pc + 2) (a0 :: a1 :: a2 :: a3 :: a4 :: a5 :: a6 :: a7 :: a8 :: a9 :: some (aR (some i)) :: r) st M) : V x Q G cc own sh n cl sl pc (a0 :: a1 :: a2 :: a3 :: a4 :: a5 :: a6 :: a7 :: a8 :: a9 :: a10 :: r) (aR (some i) :: st) M :=
  v_astore (j := 10) hd (by simp) (by exact hn) k
theorem v_ast11 {a0 a1 a2 a3 a4 a5 a6 a7 a8 a9 a10 a11 : Option AV} {r : List (Option AV)} {i : Nat} (hd : decode cc pc = .ok (.astore 11, 2)) (hn : vnl1 a10 = true) (k : V x Q G cc own sh n cl sl (pc + 2) (a0 :: a1 :: a2 :: a3 :: a4 :: a5 :: a6 :: a7 :: a8 :: a9 :: a10 :: some (aR (some i)) :: r) st M) : V x Q G cc own sh n cl sl pc (a0 :: a1 :: a2 :: a3 :: a4 :: a5 :: a6 :: a7 :: a8 :: a9 :: a10 :: a11 :: r) (aR (some i) :: st) M :=
  v_astore (j := 11) hd (by simp) (by exact hn) k
theorem v_ast12 {a0 a1 a2 a3 a4 a5 a6 a7 a8 a9 a10 a11 a12 : Option AV} {r : List (Option AV)} {i : Nat} (hd : decode cc pc = .ok (.astore 12, 2)) (hn : vnl1 a11 = true) (k : V x Q G cc own sh n cl sl (pc + 2) (a0 :: a1 :: a2 :: a3 :: a4 :: a5 :: a6 :: a7 :: a8 :: a9 :: a10 :: a11 :: some (aR (some i)) :: r) st M) : V x Q G cc own sh n cl sl pc (a0 :: a1 :: a2 :: a3 :: a4 :: a5 :: a6 :: a7 :: a8 :: a9 :: a10 :: a11 :: a12 :: r) (aR (some i) :: st) M :=
  v_astore (j := 12) hd (by simp) (by exact hn) k
theorem v_ast13 {a0 a1 a2 a3 a4 a5 a6 a7 a8 a9 a10 a11 a12 a13 : Option AV} {r : List (Option AV)} {i : Nat} (hd : decode cc pc = .ok (.astore 13, 2)) (hn : vnl1 a12 = true) (k : V x Q G cc own sh n cl sl (pc + 2) (a0 :: a1 :: a2 :: a3 :: a4 :: a5 :: a6 :: a7 :: a8 :: a9 :: a10 :: a11 :: a12 :: some (aR (some i)) :: r) st M) : V x Q G cc own sh n cl sl pc (a0 :: a1 :: a2 :: a3 :: a4 :: a5 :: a6 :: a7 :: a8 :: a9 :: a10 :: a11 :: a12 :: a13 :: r) (aR (some i) :: st) M :=
  v_astore (j := 13) hd (by simp) (by exact hn) k
theorem v_iinc0 {r : List (Option AV)} {z d : Int} (hd : decode cc pc = .ok (.iinc 0 d, 3)) (k : V x Q G cc own sh n cl sl (pc + 3) (some (aI (z + d)) :: r) st M) : V x Q G cc own sh n cl sl pc (some (aI z) :: r) st M :=
  v_iinc (j := 0) hd rfl rfl k
theorem v_iinc1 {a0 : Option AV} {r : List (Option AV)} {z d : Int} (hd : decode cc pc = .ok (.iinc 1 d, 3)) (hn : vnl1 a0 = true) (k : V x Q G cc own sh n cl sl (pc + 3) (a0 :: some (aI (z + d)) :: r) st M) : V x Q G cc own sh n cl sl pc (a0 :: some (aI z) :: r) st M :=
  v_iinc (j := 1) hd rfl (by exact hn) k
theorem v_iinc2 {a0 a1 : Option AV} {r : List (Option AV)} {z d : Int} (hd : decode cc pc = .ok (.iinc 2 d, 3)) (hn : vnl1 a1 = true) (k : V x Q G cc own sh n cl sl (pc + 3) (a0 :: a1 :: some (aI (z + d)) :: r) st M) : V x Q G cc own sh n cl sl pc (a0 :: a1 :: some (aI z) :: r) st M :=
  v_iinc (j := 2) hd rfl (by exact hn) k
theorem v_iinc3 {a0 a1 a2 : Option AV} {r : List (Option AV)} {z d : Int} (hd : decode cc pc = .ok (.iinc 3 d, 3)) (hn : vnl1 a2 = true) (k : V x Q G cc own sh n cl sl (pc + 3) (a0 :: a1 :: a2 :: some (aI (z + d)) :: r) st M) : V x Q G cc own sh n cl sl pc (a0 :: a1 :: a2 :: some (aI z) :: r) st M :=
  v_iinc (j := 3) hd rfl (by exact hn) k
theorem v_iinc4 {a0 a1 a2 a3 : Option AV} {r : List (Option AV)} {z d : Int} (hd : decode cc pc = .ok (.iinc 4 d, 3)) (hn : vnl1 a3 = true) (k : V x Q G cc own sh n cl sl (pc + 3) (a0 :: a1 :: a2 :: a3 :: some (aI (z + d)) :: r) st M) : V x Q G cc own sh n cl sl pc (a0 :: a1 :: a2 :: a3 :: some (aI z) :: r) st M :=
  v_iinc (j := 4) hd rfl (by exact hn) k
theorem v_iinc5 {a0 a1 a2 a3 a4 : Option AV} {r : List (Option AV)} {z d : Int} (hd : decode cc pc = .ok (.iinc 5 d, 3)) (hn : vnl1 a4 = true) (k : V x Q G cc own sh n cl sl (pc + 3) (a0 :: a1 :: a2 :: a3 :: a4 :: some (aI (z + d)) :: r) st M) : V x Q G cc own sh n cl sl pc (a0 :: a1 :: a2 :: a3 :: a4 :: some (aI z) :: r) st M :=
  v_iinc (j := 5) hd rfl (by exact hn) k
theorem v_iinc6 {a0 a1 a2 a3 a4 a5 : Option AV} {r : List (Option AV)} {z d : Int} (hd : decode cc pc = .ok (.iinc 6 d, 3)) (hn : vnl1 a5 = true) (k : V x Q G cc own sh n cl sl (pc + 3) (a0 :: a1 :: a2 :: a3 :: a4 :: a5 :: some (aI (z + d)) :: r) st M) : V x Q G cc own sh n cl sl pc (a0 :: a1 :: a2 :: a3 :: a4 :: a5 :: some (aI z) :: r) st M :=
  v_iinc (j := 6) hd rfl (by exact hn) k
theorem v_iinc7 {a0 a1 a2 a3 a4 a5 a6 : Option AV} {r : List (Option AV)} {z d : Int} (hd : decode cc pc = .ok (.iinc 7 d, 3)) (hn : vnl1 a6 = true) (k : V x Q G cc own sh n cl sl (pc + 3) (a0 :: a1 :: a2 :: a3 :: a4 :: a5 :: a6 :: some (aI (z + d)) :: r) st M) : V x Q G cc own sh n cl sl pc (a0 :: a1 :: a2 :: a3 :: a4 :: a5 :: a6 :: some (aI z) :: r) st M :=
  v_iinc (j := 7) hd rfl (by exact hn) k
theorem v_iinc8 {a0 a1 a2 a3 a4 a5 a6 a7 : Option AV} {r : List (Option AV)} {z d : Int} (hd : decode cc pc = .ok (.iinc 8 d, 3)) (hn : vnl1 a7 = true) (k : V x Q G cc own sh n cl sl (pc + 3) (a0 :: a1 :: a2 :: a3 :: a4 :: a5 :: a6 :: a7 :: some (aI (z + d)) :: r) st M) : V x Q G cc own sh n cl sl pc (a0 :: a1 :: a2 :: a3 :: a4 :: a5 :: a6 :: a7 :: some (aI z) :: r) st M :=
  v_iinc (j := 8) hd rfl (by exact hn) k
theorem v_iinc9 {a0 a1 a2 a3 a4 a5 a6 a7 a8 : Option AV} {r : List (Option AV)} {z d : Int} (hd : decode cc pc = .ok (.iinc 9 d, 3)) (hn : vnl1 a8 = true) (k : V x Q G cc own sh n cl sl (pc + 3) (a0 :: a1 :: a2 :: a3 :: a4 :: a5 :: a6 :: a7 :: a8 :: some (aI (z + d)) :: r) st M) : V x Q G cc own sh n cl sl pc (a0 :: a1 :: a2 :: a3 :: a4 :: a5 :: a6 :: a7 :: a8 :: some (aI z) :: r) st M :=
  v_iinc (j := 9) hd rfl (by exact hn) k
theorem v_iinc10 {a0 a1 a2 a3 a4 a5 a6 a7 a8 a9 : Option AV} {r : List (Option AV)} {z d : Int} (hd : decode cc pc = .ok (.iinc 10 d, 3)) (hn : vnl1 a9 = true) (k : V x Q G cc own sh n cl sl (pc + 3) (a0 :: a1 :: a2 :: a3 :: a4 :: a5 :: a6 :: a7 :: a8 :: a9 :: some (aI (z + d)) :: r) st M) : V x Q G cc own sh n cl sl pc (a0 :: a1 :: a2 :: a3 :: a4 :: a5 :: a6 :: a7 :: a8 :: a9 :: some (aI z) :: r) st M :=
  v_iinc (j := 10) hd rfl (by exact hn) k
theorem v_iinc11 {a0 a1 a2 a3 a4 a5 a6 a7 a8 a9 a10 : Option AV} {r : List (Option AV)} {z d : Int} (hd : decode cc pc = .ok (.iinc 11 d, 3)) (hn : vnl1 a10 = true) (k : V x Q G cc own sh n cl sl (pc + 3) (a0 :: a1 :: a2 :: a3 :: a4 :: a5 :: a6 :: a7 :: a8 :: a9 :: a10 :: some (aI (z + d)) :: r) st M) : V x Q G cc own sh n cl sl pc (a0 :: a1 :: a2 :: a3 :: a4 :: a5 :: a6 :: a7 :: a8 :: a9 :: a10 :: some (aI z) :: r) st M :=
  v_iinc (j := 11) hd rfl (by exact hn) k
theorem v_iinc12 {a0 a1 a2 a3 a4 a5 a6 a7 a8 a9 a10 a11 : Option AV} {r : List (Option AV)} {z d : Int} (hd : decode cc pc = .ok (.iinc 12 d, 3)) (hn : vnl1 a11 = true) (k : V x Q G cc own sh n cl sl (pc + 3) (a0 :: a1 :: a2 :: a3 :: a4 :: a5 :: a6 :: a7 :: a8 :: a9 :: a10 :: a11 :: some (aI (z + d)) :: r) st M) : V x Q G cc own sh n cl sl pc (a0 :: a1 :: a2 :: a3 :: a4 :: a5 :: a6 :: a7 :: a8 :: a9 :: a10 :: a11 :: some (aI z) :: r) st M :=
  v_iinc (j := 12) hd rfl (by exact hn) k
theorem v_iinc13 {a0 a1 a2 a3 a4 a5 a6 a7 a8 a9 a10 a11 a12 : Option AV} {r : List (Option AV)} {z d : Int} (hd : decode cc pc = .ok (.iinc 13 d, 3)) (hn : vnl1 a12 = true) (k : V x Q G cc own sh n cl sl (pc + 3) (a0 :: a1 :: a2 :: a3 :: a4 :: a5 :: a6 :: a7 :: a8 :: a9 :: a10 :: a11 :: a12 :: some (aI (z + d)) :: r) st M) : V x Q G cc own sh n cl sl pc (a0 :: a1 :: a2 :: a3 :: a4 :: a5 :: a6 :: a7 :: a8 :: a9 :: a10 :: a11 :: a12 :: some (aI z) :: r) st M :=
  v_iinc (j := 13) hd rfl (by exact hn) k
end VR
