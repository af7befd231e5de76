/-! ===== the law: its rules, a theorem a call ===== -/
abbrev vLw (x : vXX) (Q : State → Prop) (G : vGG) (cl sl pc i : Nat) (st : List AV) (M : Mem) : Prop := V x Q G cL_law RL SH 127 cl sl pc [some (aR (some 1003)), some (aR (some 0)), some (aR (some 110)), some (aI (i : Int))] st M
/-- the script stands where it stood, the room is the claim's -/
def lwC (x : vXX) (G : vGG) (cl sl Ln : Nat) (zs : Nat → Int32) : Prop := xR x = room_1 ∧ cl ≤ 600000 ∧ sl ≤ 7302250 ∧ va_X (G.2.2.2 1003) Ln zs (xs x) (xs x).heap ∧ G.2.2.2 1003 < (xs x).heap.size ∧ ¬ vnew G (G.2.2.2 1003) ∧ Ln ≤ 2560
section VLW
variable {x : vXX} {Q : State → Prop} {G : vGG} {cc : ByteArray} {own : String} {sh : Nat → Option Shp} {n cl sl cl0 sl0 pc Ln : Nat} {zs : Nat → Int32} {ls : List (Option AV)} {st : List AV} {M : Mem}
theorem vrv_scr : vrv G (aR (some 1003)) = .ref (G.2.2.2 1003) := rfl
theorem v_slen (C : lwC x G cl0 sl0 Ln zs) (hd : decode cc pc = .ok (.arraylength, 1)) (kk : V x Q G cc own sh n cl sl (pc + 1) ls (aI (Ln : Int) :: st) M) : V x Q G cc own sh n cl sl pc ls (aR (some 1003) :: st) M := fun D H locs la hR hS hL => by
  obtain ⟨-, -, -, c4, c5, c6, c7⟩ := C
  have K := kk D H locs la hR hS hL
  exact va_slen D.1 D.2.1 c4 c5 c6 hS hd K
theorem v_sld {j : Nat} {z : Int} (C : lwC x G cl0 sl0 Ln zs) (hz : z = (j : Int)) (hj : j < Ln) (hd : decode cc pc = .ok (.iaload, 1)) (kk : V x Q G cc own sh n cl sl (pc + 1) ls (aI (zs j).toInt :: st) M) : V x Q G cc own sh n cl sl pc ls (aI z :: aR (some 1003) :: st) M := fun D H locs la hR hS hL => by
  obtain ⟨-, -, -, c4, c5, c6, c7⟩ := C
  subst hz
  have e := Int32.toNatClampNeg_ofInt_of_le (n := (j : Int)) (by omega) (by omega)
  rw [Int.toNat_natCast] at e
  have K := kk D H locs la hR hS hL
  have hv : vrv G (aI (zs j).toInt) = .int (zs j) := by show Value.int (Int32.ofInt (zs j).toInt) = _; rw [Int32.ofInt_toInt]
  rw [List.map_cons, hv] at K
  refine va_sld D.1 D.2.1 c4 c5 c6 hS (i := Int32.ofInt (j : Int)) (fun q => ?_) hd (by rw [e]; exact K)
  rcases q with q | q
  · rw [i32_0, i32_lt (by omega) i32_r0] at q; omega
  · rw [e] at q; omega
theorem v_nz {z : Int} (hz : R32 z) (d1 : decode cc pc = .ok (.ifCond .eq 7, 3)) (d2 : decode cc (pc + 3) = .ok (.iconst 1, 1)) (d3 : decode cc (pc + 4) = .ok (.goto 4, 3)) (d4 : decode cc (pc + 7) = .ok (.iconst 0, 1)) (kk : V x Q G cc own sh n cl sl (pc + 8) ls (aI (bP (z ≠ 0)) :: st) M) : V x Q G cc own sh n cl sl pc ls (aI z :: st) M := by
  refine v_if_eq (pc + 7) d1 (by omega) hz (fun h => ?_) (fun h => ?_)
  · refine v_iconst d4 ?_
    rw [bP_f (fun q => q h)] at kk
    exact kk
  · refine v_iconst d2 ?_
    refine v_goto (pc + 8) d3 (by omega) ?_
    rw [bP_t h] at kk
    exact kk
theorem v_icmp_eqS {a b off : Int} (tgt : Nat) (hd : decode cc pc = .ok (.if_icmp .eq off, 3)) (ht : (pc : Int) + off = (tgt : Int)) (h : a = b) (k : V x Q G cc own sh n cl sl tgt ls st M) : V x Q G cc own sh n cl sl pc ls (aI b :: aI a :: st) M := by
  subst h
  exact fun C H locs la hR hS hL => lv_icmp_eq C.1 C.2.1 hd ht (fun _ => k C H locs la hR hS hL) (fun h => absurd rfl h)
theorem lg_cmp_s (a : Int64) : lg_cmp a a = 0 := by
  unfold lg_cmp
  simp
theorem v_lcmpS {a b : Int} (hd : decode cc pc = .ok (.lcmp, 1)) (h : a = b) (k : V x Q G cc own sh n cl sl (pc + 1) ls (aI 0 :: st) M) : V x Q G cc own sh n cl sl pc ls (aL b :: aL a :: st) M := by
  subst h
  exact fun C H locs la hR hS hL => W.lcmp C.1 C.2.1 hd (by rw [lg_cmp_s]; exact k C H locs la hR hS hL)
theorem lRm {f lo mL : Nat} (C : lwC x G cl sl Ln zs) (h1 : f + 1 ≤ 10) (h2 : 8 + (mL + 11) + lo ≤ 368) : vRm (rmo f lo) (xR x) mL cl sl := by
  rw [C.1]
  exact ⟨⟨h1, h2⟩, C.2.1, C.2.2.1⟩
variable {y : MethodName} {cy : ByteArray} {mL idx : Nat} {ret : Option FieldType} {P : Option AV → Mem → Prop} {f lo : Nat}
theorem lV0 {b : Nat} (ci : Nat) (hc : Co (xl x) y cy mL ret (rmo f lo) G [aR (some b)] M P) (k0 : vK0 y cy mL ret 0) (ki : Cond.instanceMethod y ∈ vGT ∧ Cond.selects y.cls y y ∈ vGT) (kl : Cond.methodLink own idx y ∈ vGT) (hs : SH b = some (.inl ci)) (hcl : (vwCl[ci]?).map (fun r => r.1) = some y.cls) (hR1 : vRm (rmo f lo) (xR x) mL cl sl) (hd : decode cc pc = .ok (.invokevirtual idx, 3)) (hst : (st.map vcat).sum ≤ 8) (hz : ∀ r0 M', P r0 M' → ∃ z, r0 = some (aI z)) (kk : ∀ (z : Int) (M' : Mem), P (some (aI z)) M' → V x Q G cc own SH 127 cl sl (pc + 3) ls (aI z :: st) M') : V x Q G cc own SH 127 cl sl pc ls (aR (some b) :: st) M :=
  v_callV0 ci hc k0 kl ki.1 ki.2 hs hcl hR1 hst hd (fun r0 sh' n' M' h => by
    obtain ⟨rfl, rfl, h⟩ := h
    obtain ⟨z, rfl⟩ := hz r0 M' h
    exact kk z M' h)
theorem lW0 {b : Nat} (ci : Nat) (hc : Co (xl x) y cy mL ret (rmo f lo) G [aR (some b)] M P) (k0 : vK0 y cy mL ret 0) (ki : Cond.instanceMethod y ∈ vGT ∧ Cond.selects y.cls y y ∈ vGT) (kl : Cond.methodLink own idx y ∈ vGT) (hs : SH b = some (.inl ci)) (hcl : (vwCl[ci]?).map (fun r => r.1) = some y.cls) (hR1 : vRm (rmo f lo) (xR x) mL cl sl) (hd : decode cc pc = .ok (.invokevirtual idx, 3)) (hst : (st.map vcat).sum ≤ 8) (hz : ∀ r0 M', P r0 M' → ∃ z, r0 = some (aL z)) (kk : ∀ (z : Int) (M' : Mem), P (some (aL z)) M' → V x Q G cc own SH 127 cl sl (pc + 3) ls (aL z :: st) M') : V x Q G cc own SH 127 cl sl pc ls (aR (some b) :: st) M :=
  v_callV0 ci hc k0 kl ki.1 ki.2 hs hcl hR1 hst hd (fun r0 sh' n' M' h => by
    obtain ⟨rfl, rfl, h⟩ := h
    obtain ⟨z, rfl⟩ := hz r0 M' h
    exact kk z M' h)
theorem lV1 {a0 : AV} {b : Nat} (ci : Nat) (hc : Co (xl x) y cy mL ret (rmo f lo) G [aR (some b), a0] M P) (k0 : vK0 y cy mL ret 1) (ki : Cond.instanceMethod y ∈ vGT ∧ Cond.selects y.cls y y ∈ vGT) (kl : Cond.methodLink own idx y ∈ vGT) (hs : SH b = some (.inl ci)) (hcl : (vwCl[ci]?).map (fun r => r.1) = some y.cls) (hR1 : vRm (rmo f lo) (xR x) mL cl sl) (hd : decode cc pc = .ok (.invokevirtual idx, 3)) (hst : (st.map vcat).sum ≤ 8) (hz : ∀ r0 M', P r0 M' → ∃ z, r0 = some (aI z)) (kk : ∀ (z : Int) (M' : Mem), P (some (aI z)) M' → V x Q G cc own SH 127 cl sl (pc + 3) ls (aI z :: st) M') : V x Q G cc own SH 127 cl sl pc ls (a0 :: aR (some b) :: st) M :=
  v_callV1 ci hc k0 kl ki.1 ki.2 hs hcl hR1 hst hd (fun r0 sh' n' M' h => by
    obtain ⟨rfl, rfl, h⟩ := h
    obtain ⟨z, rfl⟩ := hz r0 M' h
    exact kk z M' h)
theorem lV2 {a0 a1 : AV} {b : Nat} (ci : Nat) (hc : Co (xl x) y cy mL ret (rmo f lo) G [aR (some b), a0, a1] M P) (k0 : vK0 y cy mL ret 2) (ki : Cond.instanceMethod y ∈ vGT ∧ Cond.selects y.cls y y ∈ vGT) (kl : Cond.methodLink own idx y ∈ vGT) (hs : SH b = some (.inl ci)) (hcl : (vwCl[ci]?).map (fun r => r.1) = some y.cls) (hR1 : vRm (rmo f lo) (xR x) mL cl sl) (hd : decode cc pc = .ok (.invokevirtual idx, 3)) (hst : (st.map vcat).sum ≤ 8) (hz : ∀ r0 M', P r0 M' → ∃ z, r0 = some (aI z)) (kk : ∀ (z : Int) (M' : Mem), P (some (aI z)) M' → V x Q G cc own SH 127 cl sl (pc + 3) ls (aI z :: st) M') : V x Q G cc own SH 127 cl sl pc ls (a1 :: a0 :: aR (some b) :: st) M :=
  v_callV2 ci hc k0 kl ki.1 ki.2 hs hcl hR1 hst hd (fun r0 sh' n' M' h => by
    obtain ⟨rfl, rfl, h⟩ := h
    obtain ⟨z, rfl⟩ := hz r0 M' h
    exact kk z M' h)
theorem lV3 {a0 a1 a2 : AV} {b : Nat} (ci : Nat) (hc : Co (xl x) y cy mL ret (rmo f lo) G [aR (some b), a0, a1, a2] M P) (k0 : vK0 y cy mL ret 3) (ki : Cond.instanceMethod y ∈ vGT ∧ Cond.selects y.cls y y ∈ vGT) (kl : Cond.methodLink own idx y ∈ vGT) (hs : SH b = some (.inl ci)) (hcl : (vwCl[ci]?).map (fun r => r.1) = some y.cls) (hR1 : vRm (rmo f lo) (xR x) mL cl sl) (hd : decode cc pc = .ok (.invokevirtual idx, 3)) (hst : (st.map vcat).sum ≤ 8) (hz : ∀ r0 M', P r0 M' → ∃ z, r0 = some (aI z)) (kk : ∀ (z : Int) (M' : Mem), P (some (aI z)) M' → V x Q G cc own SH 127 cl sl (pc + 3) ls (aI z :: st) M') : V x Q G cc own SH 127 cl sl pc ls (a2 :: a1 :: a0 :: aR (some b) :: st) M :=
  v_callV3 ci hc k0 kl ki.1 ki.2 hs hcl hR1 hst hd (fun r0 sh' n' M' h => by
    obtain ⟨rfl, rfl, h⟩ := h
    obtain ⟨z, rfl⟩ := hz r0 M' h
    exact kk z M' h)
theorem lV4 {a0 a1 a2 a3 : AV} {b : Nat} (ci : Nat) (hc : Co (xl x) y cy mL ret (rmo f lo) G [aR (some b), a0, a1, a2, a3] M P) (k0 : vK0 y cy mL ret 4) (ki : Cond.instanceMethod y ∈ vGT ∧ Cond.selects y.cls y y ∈ vGT) (kl : Cond.methodLink own idx y ∈ vGT) (hs : SH b = some (.inl ci)) (hcl : (vwCl[ci]?).map (fun r => r.1) = some y.cls) (hR1 : vRm (rmo f lo) (xR x) mL cl sl) (hd : decode cc pc = .ok (.invokevirtual idx, 3)) (hst : (st.map vcat).sum ≤ 8) (hz : ∀ r0 M', P r0 M' → ∃ z, r0 = some (aI z)) (kk : ∀ (z : Int) (M' : Mem), P (some (aI z)) M' → V x Q G cc own SH 127 cl sl (pc + 3) ls (aI z :: st) M') : V x Q G cc own SH 127 cl sl pc ls (a3 :: a2 :: a1 :: a0 :: aR (some b) :: st) M :=
  v_callV4 ci hc k0 kl ki.1 ki.2 hs hcl hR1 hst hd (fun r0 sh' n' M' h => by
    obtain ⟨rfl, rfl, h⟩ := h
    obtain ⟨z, rfl⟩ := hz r0 M' h
    exact kk z M' h)
end VLW
set_option maxRecDepth 100000 in
set_option maxHeartbeats 1000000 in
theorem lc_layOut {x : vXX} {Q : State → Prop} {G : vGG} {cl sl Ln i : Nat} {zs : Nat → Int32} {M : Mem} (C : lwC x G cl sl Ln zs) (hi : i + 5 ≤ Ln) (kk : ∀ N, JR N → vLw x Q G cl sl 931 i [] N) (hJ : JR M) : vLw x Q G cl sl 152 i [] M := by
  obtain ⟨v, r, h, ro, ke, kr, t, L, hX, hM⟩ := hJ
  have hLn := C.2.2.2.2.2.2
  refine v_aload_n 1 dL_law_152 rfl rfl ?_
  refine v_aload_n 0 dL_law_153 rfl rfl ?_
  refine v_iload_n 3 dL_law_154 rfl rfl ?_
  refine v_iconst dL_law_155 ?_
  refine v_iadd dL_law_156 ?_
  refine v_sld (j := i + 1) C (by omega) (by omega) dL_law_157 ?_
  refine v_aload_n 0 dL_law_158 rfl rfl ?_
  refine v_iload_n 3 dL_law_159 rfl rfl ?_
  refine v_iconst dL_law_160 ?_
  refine v_iadd dL_law_161 ?_
  refine v_sld (j := i + 2) C (by omega) (by omega) dL_law_162 ?_
  refine v_aload_n 0 dL_law_163 rfl rfl ?_
  refine v_iload_n 3 dL_law_164 rfl rfl ?_
  refine v_iconst dL_law_165 ?_
  refine v_iadd dL_law_166 ?_
  refine v_sld (j := i + 3) C (by omega) (by omega) dL_law_167 ?_
  refine v_aload_n 0 dL_law_168 rfl rfl ?_
  refine v_iload_n 3 dL_law_169 rfl rfl ?_
  refine v_iconst dL_law_170 ?_
  refine v_iadd dL_law_171 ?_
  refine v_sld (j := i + 4) C (by omega) (by omega) dL_law_172 ?_
  refine lV4 3 (c_X3_layOut hX.lay hX.xs hX.inv hX.jr hX.r5 hX.hh hX.hB (i32_T _) (i32_T _) (i32_T _) (i32_T _)) k0_X3_layOut ki_X3_layOut ml_L_13 (rfl : SH 0 = _) (by decide) (lRm C (by decide) (by decide)) dL_law_173 (Nat.le_of_ble_eq_true rfl) (fun r0 M' h => xPost_z h) (fun z1 N h1 => ?_)
  have hM1 := hM.x (N := N) (xPost_x hX h1)
  refine v_aload_n 2 dL_law_176 rfl rfl ?_
  refine v_aload_n 0 dL_law_177 rfl rfl ?_
  refine v_iload_n 3 dL_law_178 rfl rfl ?_
  refine v_iconst dL_law_179 ?_
  refine v_iadd dL_law_180 ?_
  refine v_sld (j := i + 1) C (by omega) (by omega) dL_law_181 ?_
  refine v_aload_n 0 dL_law_182 rfl rfl ?_
  refine v_iload_n 3 dL_law_183 rfl rfl ?_
  refine v_iconst dL_law_184 ?_
  refine v_iadd dL_law_185 ?_
  refine v_sld (j := i + 2) C (by omega) (by omega) dL_law_186 ?_
  refine v_aload_n 0 dL_law_187 rfl rfl ?_
  refine v_iload_n 3 dL_law_188 rfl rfl ?_
  refine v_iconst dL_law_189 ?_
  refine v_iadd dL_law_190 ?_
  refine v_sld (j := i + 3) C (by omega) (by omega) dL_law_191 ?_
  refine v_aload_n 0 dL_law_192 rfl rfl ?_
  refine v_iload_n 3 dL_law_193 rfl rfl ?_
  refine v_iconst dL_law_194 ?_
  refine v_iadd dL_law_195 ?_
  refine v_sld (j := i + 4) C (by omega) (by omega) dL_law_196 ?_
  refine lV4 4 (c_X4_layOut hM1.lay hM1.jv hM1.n hX.r5 (i32_T _) (i32_T _) (i32_T _) (i32_T _)) k0_X4_layOut ki_X4_layOut ml_L_17 (rfl : SH 110 = _) (by decide) (lRm C (by decide) (by decide)) dL_law_197 (Nat.le_of_ble_eq_true rfl) (fun r0 M' h => oPost_z h) (fun z2 N' h2 => ?_)
  obtain ⟨hz, hJ2⟩ : z1 = z2 ∧ JR N' := p_op hX hM1 h1 h2 (fun g => lay_inv hX.inv (by have := g.1; omega) g.2.1 g.2.2.1 g.2.2.2)
  refine v_icmp_eqS 931 dL_law_200 (by decide) hz ?_
  exact kk N' hJ2
set_option maxRecDepth 100000 in
set_option maxHeartbeats 1000000 in
theorem lc_stop {x : vXX} {Q : State → Prop} {G : vGG} {cl sl Ln i : Nat} {zs : Nat → Int32} {M : Mem} (C : lwC x G cl sl Ln zs) (hi : i + 5 ≤ Ln) (kk : ∀ N, JR N → vLw x Q G cl sl 931 i [] N) (hJ : JR M) : vLw x Q G cl sl 205 i [] M := by
  obtain ⟨v, r, h, ro, ke, kr, t, L, hX, hM⟩ := hJ
  have hLn := C.2.2.2.2.2.2
  refine v_aload_n 1 dL_law_205 rfl rfl ?_
  refine v_aload_n 0 dL_law_206 rfl rfl ?_
  refine v_iload_n 3 dL_law_207 rfl rfl ?_
  refine v_iconst dL_law_208 ?_
  refine v_iadd dL_law_209 ?_
  refine v_sld (j := i + 1) C (by omega) (by omega) dL_law_210 ?_
  refine v_aload_n 0 dL_law_211 rfl rfl ?_
  refine v_iload_n 3 dL_law_212 rfl rfl ?_
  refine v_iconst dL_law_213 ?_
  refine v_iadd dL_law_214 ?_
  refine v_sld (j := i + 2) C (by omega) (by omega) dL_law_215 ?_
  refine lV2 3 (c_X3_stop hX.lay hX.xs hX.inv (i32_T _) (i32_T _)) k0_X3_stop ki_X3_stop ml_L_18 (rfl : SH 0 = _) (by decide) (lRm C (by decide) (by decide)) dL_law_216 (Nat.le_of_ble_eq_true rfl) (fun r0 M' h => ⟨_, h.1⟩) (fun z1 N h1 => ?_)
  have hM1 := hM.x (N := N) (by rw [h1.2]; exact xfr_rf)
  refine v_aload_n 2 dL_law_219 rfl rfl ?_
  refine v_aload_n 0 dL_law_220 rfl rfl ?_
  refine v_iload_n 3 dL_law_221 rfl rfl ?_
  refine v_iconst dL_law_222 ?_
  refine v_iadd dL_law_223 ?_
  refine v_sld (j := i + 1) C (by omega) (by omega) dL_law_224 ?_
  refine v_aload_n 0 dL_law_225 rfl rfl ?_
  refine v_iload_n 3 dL_law_226 rfl rfl ?_
  refine v_iconst dL_law_227 ?_
  refine v_iadd dL_law_228 ?_
  refine v_sld (j := i + 2) C (by omega) (by omega) dL_law_229 ?_
  refine lV2 4 (c_X4_stop hM1.lay hM1.jv hX.inv (i32_T _) (i32_T _)) k0_X4_stop ki_X4_stop ml_L_22 (rfl : SH 110 = _) (by decide) (lRm C (by decide) (by decide)) dL_law_230 (Nat.le_of_ble_eq_true rfl) (fun r0 M' h => ⟨_, h.1⟩) (fun z2 N' h2 => ?_)
  obtain ⟨hz, hJ2⟩ : z1 = z2 ∧ JR N' := ⟨(aI_inj h1.1).trans (aI_inj h2.1).symm, by rw [h2.2]; exact ⟨_, _, _, _, _, _, _, _, by rw [h1.2]; exact hX, hM1⟩⟩
  refine v_icmp_eqS 931 dL_law_233 (by decide) hz ?_
  exact kk N' hJ2
set_option maxRecDepth 100000 in
set_option maxHeartbeats 1000000 in
theorem lc_set {x : vXX} {Q : State → Prop} {G : vGG} {cl sl Ln i : Nat} {zs : Nat → Int32} {M : Mem} (C : lwC x G cl sl Ln zs) (hi : i + 5 ≤ Ln) (kk : ∀ N, JR N → vLw x Q G cl sl 931 i [] N) (hJ : JR M) : vLw x Q G cl sl 238 i [] M := by
  obtain ⟨v, r, h, ro, ke, kr, t, L, hX, hM⟩ := hJ
  have hLn := C.2.2.2.2.2.2
  refine v_aload_n 1 dL_law_238 rfl rfl ?_
  refine v_aload_n 0 dL_law_239 rfl rfl ?_
  refine v_iload_n 3 dL_law_240 rfl rfl ?_
  refine v_iconst dL_law_241 ?_
  refine v_iadd dL_law_242 ?_
  refine v_sld (j := i + 1) C (by omega) (by omega) dL_law_243 ?_
  refine v_aload_n 0 dL_law_244 rfl rfl ?_
  refine v_iload_n 3 dL_law_245 rfl rfl ?_
  refine v_iconst dL_law_246 ?_
  refine v_iadd dL_law_247 ?_
  refine v_sld (j := i + 2) C (by omega) (by omega) dL_law_248 ?_
  refine lV2 3 (c_X3_set hX.lay hX.xs hX.inv hX.jr hX.r5 hX.hh hX.hB hX.lo hX.hi (i32_T _) (i32_T _)) k0_X3_set ki_X3_set ml_L_23 (rfl : SH 0 = _) (by decide) (lRm C (by decide) (by decide)) dL_law_249 (Nat.le_of_ble_eq_true rfl) (fun r0 M' h => xPost_z h) (fun z1 N h1 => ?_)
  have hM1 := hM.x (N := N) (xPost_x hX h1)
  refine v_aload_n 2 dL_law_252 rfl rfl ?_
  refine v_aload_n 0 dL_law_253 rfl rfl ?_
  refine v_iload_n 3 dL_law_254 rfl rfl ?_
  refine v_iconst dL_law_255 ?_
  refine v_iadd dL_law_256 ?_
  refine v_sld (j := i + 1) C (by omega) (by omega) dL_law_257 ?_
  refine v_aload_n 0 dL_law_258 rfl rfl ?_
  refine v_iload_n 3 dL_law_259 rfl rfl ?_
  refine v_iconst dL_law_260 ?_
  refine v_iadd dL_law_261 ?_
  refine v_sld (j := i + 2) C (by omega) (by omega) dL_law_262 ?_
  refine lV2 4 (c_X4_set hM1.lay hM1.jv hM1.n hX.r5 hM1.lo hM1.hi (i32_T _) (i32_T _)) k0_X4_set ki_X4_set ml_L_26 (rfl : SH 110 = _) (by decide) (lRm C (by decide) (by decide)) dL_law_263 (Nat.le_of_ble_eq_true rfl) (fun r0 M' h => oPost_z h) (fun z2 N' h2 => ?_)
  obtain ⟨hz, hJ2⟩ : z1 = z2 ∧ JR N' := p_op hX hM1 h1 h2 (fun g => set_inv hX.inv (by have := g.1; omega) g.2)
  refine v_icmp_eqS 931 dL_law_266 (by decide) hz ?_
  exact kk N' hJ2
set_option maxRecDepth 100000 in
set_option maxHeartbeats 1000000 in
theorem lc_cipher {x : vXX} {Q : State → Prop} {G : vGG} {cl sl Ln i : Nat} {zs : Nat → Int32} {M : Mem} (C : lwC x G cl sl Ln zs) (hi : i + 5 ≤ Ln) (kk : ∀ N, JR N → vLw x Q G cl sl 931 i [] N) (hJ : JR M) : vLw x Q G cl sl 271 i [] M := by
  obtain ⟨v, r, h, ro, ke, kr, t, L, hX, hM⟩ := hJ
  have hLn := C.2.2.2.2.2.2
  refine v_aload_n 1 dL_law_271 rfl rfl ?_
  refine v_aload_n 0 dL_law_272 rfl rfl ?_
  refine v_iload_n 3 dL_law_273 rfl rfl ?_
  refine v_iconst dL_law_274 ?_
  refine v_iadd dL_law_275 ?_
  refine v_sld (j := i + 1) C (by omega) (by omega) dL_law_276 ?_
  refine v_aload_n 0 dL_law_277 rfl rfl ?_
  refine v_iload_n 3 dL_law_278 rfl rfl ?_
  refine v_iconst dL_law_279 ?_
  refine v_iadd dL_law_280 ?_
  refine v_sld (j := i + 2) C (by omega) (by omega) dL_law_281 ?_
  refine v_aload_n 0 dL_law_282 rfl rfl ?_
  refine v_iload_n 3 dL_law_283 rfl rfl ?_
  refine v_iconst dL_law_284 ?_
  refine v_iadd dL_law_285 ?_
  refine v_sld (j := i + 3) C (by omega) (by omega) dL_law_286 ?_
  refine v_nz (i32_T _) dL_law_287 dL_law_290 dL_law_291 dL_law_294 ?_
  refine lV3 3 (c_X3_cipher hX.lay hX.xs hX.inv hX.jr hX.r5 hX.hh hX.hB (i32_T _) (i32_T _) (bP_R _)) k0_X3_cipher ki_X3_cipher ml_L_27 (rfl : SH 0 = _) (by decide) (lRm C (by decide) (by decide)) dL_law_295 (Nat.le_of_ble_eq_true rfl) (fun r0 M' h => xPost_z h) (fun z1 N h1 => ?_)
  have hM1 := hM.x (N := N) (xPost_x hX h1)
  refine v_aload_n 2 dL_law_298 rfl rfl ?_
  refine v_aload_n 0 dL_law_299 rfl rfl ?_
  refine v_iload_n 3 dL_law_300 rfl rfl ?_
  refine v_iconst dL_law_301 ?_
  refine v_iadd dL_law_302 ?_
  refine v_sld (j := i + 1) C (by omega) (by omega) dL_law_303 ?_
  refine v_aload_n 0 dL_law_304 rfl rfl ?_
  refine v_iload_n 3 dL_law_305 rfl rfl ?_
  refine v_iconst dL_law_306 ?_
  refine v_iadd dL_law_307 ?_
  refine v_sld (j := i + 2) C (by omega) (by omega) dL_law_308 ?_
  refine v_aload_n 0 dL_law_309 rfl rfl ?_
  refine v_iload_n 3 dL_law_310 rfl rfl ?_
  refine v_iconst dL_law_311 ?_
  refine v_iadd dL_law_312 ?_
  refine v_sld (j := i + 3) C (by omega) (by omega) dL_law_313 ?_
  refine v_nz (i32_T _) dL_law_314 dL_law_317 dL_law_318 dL_law_321 ?_
  refine lV3 4 (c_X4_cipher hM1.lay hM1.jv hX.inv hM1.n hX.r5 (i32_T _) (i32_T _) (bP_R _)) k0_X4_cipher ki_X4_cipher ml_L_31 (rfl : SH 110 = _) (by decide) (lRm C (by decide) (by decide)) dL_law_322 (Nat.le_of_ble_eq_true rfl) (fun r0 M' h => oPost_z h) (fun z2 N' h2 => ?_)
  obtain ⟨hz, hJ2⟩ : z1 = z2 ∧ JR N' := p_op hX hM1 h1 h2 (fun g => cip_inv hX.inv (by have := g.1; unfold gSK at this; omega) (by have := g.1; unfold gSK at this; omega) g.2)
  refine v_icmp_eqS 931 dL_law_325 (by decide) hz ?_
  exact kk N' hJ2
set_option maxRecDepth 100000 in
set_option maxHeartbeats 1000000 in
theorem lc_draw {x : vXX} {Q : State → Prop} {G : vGG} {cl sl Ln i : Nat} {zs : Nat → Int32} {M : Mem} (C : lwC x G cl sl Ln zs) (hi : i + 5 ≤ Ln) (kk : ∀ N, JR N → vLw x Q G cl sl 931 i [] N) (hJ : JR M) : vLw x Q G cl sl 330 i [] M := by
  obtain ⟨v, r, h, ro, ke, kr, t, L, hX, hM⟩ := hJ
  have hLn := C.2.2.2.2.2.2
  refine v_aload_n 1 dL_law_330 rfl rfl ?_
  refine v_aload_n 0 dL_law_331 rfl rfl ?_
  refine v_iload_n 3 dL_law_332 rfl rfl ?_
  refine v_iconst dL_law_333 ?_
  refine v_iadd dL_law_334 ?_
  refine v_sld (j := i + 1) C (by omega) (by omega) dL_law_335 ?_
  refine v_aload_n 0 dL_law_336 rfl rfl ?_
  refine v_iload_n 3 dL_law_337 rfl rfl ?_
  refine v_iconst dL_law_338 ?_
  refine v_iadd dL_law_339 ?_
  refine v_sld (j := i + 2) C (by omega) (by omega) dL_law_340 ?_
  refine v_nz (i32_T _) dL_law_341 dL_law_344 dL_law_345 dL_law_348 ?_
  refine lV2 3 (c_X3_draw hX.lay hX.xs hX.inv hX.jr hX.r5 hX.hh hX.hB (i32_T _) (bP_R _)) k0_X3_draw ki_X3_draw ml_L_32 (rfl : SH 0 = _) (by decide) (lRm C (by decide) (by decide)) dL_law_349 (Nat.le_of_ble_eq_true rfl) (fun r0 M' h => xPost_z h) (fun z1 N h1 => ?_)
  have hM1 := hM.x (N := N) (xPost_x hX h1)
  refine v_aload_n 2 dL_law_352 rfl rfl ?_
  refine v_aload_n 0 dL_law_353 rfl rfl ?_
  refine v_iload_n 3 dL_law_354 rfl rfl ?_
  refine v_iconst dL_law_355 ?_
  refine v_iadd dL_law_356 ?_
  refine v_sld (j := i + 1) C (by omega) (by omega) dL_law_357 ?_
  refine v_aload_n 0 dL_law_358 rfl rfl ?_
  refine v_iload_n 3 dL_law_359 rfl rfl ?_
  refine v_iconst dL_law_360 ?_
  refine v_iadd dL_law_361 ?_
  refine v_sld (j := i + 2) C (by omega) (by omega) dL_law_362 ?_
  refine v_nz (i32_T _) dL_law_363 dL_law_366 dL_law_367 dL_law_370 ?_
  refine lV2 4 (c_X4_draw hM1.lay hM1.jv hX.inv hM1.n hX.r5 (i32_T _) (bP_R _)) k0_X4_draw ki_X4_draw ml_L_36 (rfl : SH 110 = _) (by decide) (lRm C (by decide) (by decide)) dL_law_371 (Nat.le_of_ble_eq_true rfl) (fun r0 M' h => oPost_z h) (fun z2 N' h2 => ?_)
  obtain ⟨hz, hJ2⟩ : z1 = z2 ∧ JR N' := p_op hX hM1 h1 h2 (fun g => dra_inv hX.inv (by omega) _)
  refine v_icmp_eqS 931 dL_law_374 (by decide) hz ?_
  exact kk N' hJ2
set_option maxRecDepth 100000 in
set_option maxHeartbeats 1000000 in
theorem lc_press {x : vXX} {Q : State → Prop} {G : vGG} {cl sl Ln i : Nat} {zs : Nat → Int32} {M : Mem} (C : lwC x G cl sl Ln zs) (hi : i + 5 ≤ Ln) (kk : ∀ N, JR N → vLw x Q G cl sl 931 i [] N) (hJ : JR M) : vLw x Q G cl sl 379 i [] M := by
  obtain ⟨v, r, h, ro, ke, kr, t, L, hX, hM⟩ := hJ
  have hLn := C.2.2.2.2.2.2
  refine v_aload_n 1 dL_law_379 rfl rfl ?_
  refine v_aload_n 0 dL_law_380 rfl rfl ?_
  refine v_iload_n 3 dL_law_381 rfl rfl ?_
  refine v_iconst dL_law_382 ?_
  refine v_iadd dL_law_383 ?_
  refine v_sld (j := i + 1) C (by omega) (by omega) dL_law_384 ?_
  refine v_aload_n 0 dL_law_385 rfl rfl ?_
  refine v_iload_n 3 dL_law_386 rfl rfl ?_
  refine v_iconst dL_law_387 ?_
  refine v_iadd dL_law_388 ?_
  refine v_sld (j := i + 2) C (by omega) (by omega) dL_law_389 ?_
  refine v_aload_n 0 dL_law_390 rfl rfl ?_
  refine v_iload_n 3 dL_law_391 rfl rfl ?_
  refine v_iconst dL_law_392 ?_
  refine v_iadd dL_law_393 ?_
  refine v_sld (j := i + 3) C (by omega) (by omega) dL_law_394 ?_
  refine v_nz (i32_T _) dL_law_395 dL_law_398 dL_law_399 dL_law_402 ?_
  refine lV3 3 (c_X3_press hX.lay hX.xs hX.inv hX.jr hX.r5 hX.hh hX.hB (i32_T _) (i32_T _) (bP_R _)) k0_X3_press ki_X3_press ml_L_37 (rfl : SH 0 = _) (by decide) (lRm C (by decide) (by decide)) dL_law_403 (Nat.le_of_ble_eq_true rfl) (fun r0 M' h => xPost_z h) (fun z1 N h1 => ?_)
  have hM1 := hM.x (N := N) (xPost_x hX h1)
  refine v_aload_n 2 dL_law_406 rfl rfl ?_
  refine v_aload_n 0 dL_law_407 rfl rfl ?_
  refine v_iload_n 3 dL_law_408 rfl rfl ?_
  refine v_iconst dL_law_409 ?_
  refine v_iadd dL_law_410 ?_
  refine v_sld (j := i + 1) C (by omega) (by omega) dL_law_411 ?_
  refine v_aload_n 0 dL_law_412 rfl rfl ?_
  refine v_iload_n 3 dL_law_413 rfl rfl ?_
  refine v_iconst dL_law_414 ?_
  refine v_iadd dL_law_415 ?_
  refine v_sld (j := i + 2) C (by omega) (by omega) dL_law_416 ?_
  refine v_aload_n 0 dL_law_417 rfl rfl ?_
  refine v_iload_n 3 dL_law_418 rfl rfl ?_
  refine v_iconst dL_law_419 ?_
  refine v_iadd dL_law_420 ?_
  refine v_sld (j := i + 3) C (by omega) (by omega) dL_law_421 ?_
  refine v_nz (i32_T _) dL_law_422 dL_law_425 dL_law_426 dL_law_429 ?_
  refine lV3 4 (c_X4_press hM1.lay hM1.jv hX.inv hM1.n hX.r5 (i32_T _) (i32_T _) (bP_R _)) k0_X4_press ki_X4_press ml_L_40 (rfl : SH 110 = _) (by decide) (lRm C (by decide) (by decide)) dL_law_430 (Nat.le_of_ble_eq_true rfl) (fun r0 M' h => oPost_z h) (fun z2 N' h2 => ?_)
  obtain ⟨hz, hJ2⟩ : z1 = z2 ∧ JR N' := p_op hX hM1 h1 h2 (fun g => pre_inv hX.inv (by omega) (by omega) _)
  refine v_icmp_eqS 931 dL_law_433 (by decide) hz ?_
  exact kk N' hJ2
set_option maxRecDepth 100000 in
set_option maxHeartbeats 1000000 in
theorem lc_couple {x : vXX} {Q : State → Prop} {G : vGG} {cl sl Ln i : Nat} {zs : Nat → Int32} {M : Mem} (C : lwC x G cl sl Ln zs) (hi : i + 5 ≤ Ln) (kk : ∀ N, JR N → vLw x Q G cl sl 931 i [] N) (hJ : JR M) : vLw x Q G cl sl 438 i [] M := by
  obtain ⟨v, r, h, ro, ke, kr, t, L, hX, hM⟩ := hJ
  have hLn := C.2.2.2.2.2.2
  refine v_aload_n 1 dL_law_438 rfl rfl ?_
  refine v_aload_n 0 dL_law_439 rfl rfl ?_
  refine v_iload_n 3 dL_law_440 rfl rfl ?_
  refine v_iconst dL_law_441 ?_
  refine v_iadd dL_law_442 ?_
  refine v_sld (j := i + 1) C (by omega) (by omega) dL_law_443 ?_
  refine v_nz (i32_T _) dL_law_444 dL_law_447 dL_law_448 dL_law_451 ?_
  refine v_aload_n 0 dL_law_452 rfl rfl ?_
  refine v_iload_n 3 dL_law_453 rfl rfl ?_
  refine v_iconst dL_law_454 ?_
  refine v_iadd dL_law_455 ?_
  refine v_sld (j := i + 2) C (by omega) (by omega) dL_law_456 ?_
  refine v_nz (i32_T _) dL_law_457 dL_law_460 dL_law_461 dL_law_464 ?_
  refine lV2 3 (c_X3_couple hX.lay hX.xs hX.inv hX.jr hX.r5 hX.hh hX.hB (bP_01 _) (bP_01 _)) k0_X3_couple ki_X3_couple ml_L_41 (rfl : SH 0 = _) (by decide) (lRm C (by decide) (by decide)) dL_law_465 (Nat.le_of_ble_eq_true rfl) (fun r0 M' h => xPost_z h) (fun z1 N h1 => ?_)
  have hM1 := hM.x (N := N) (xPost_x hX h1)
  refine v_aload_n 2 dL_law_468 rfl rfl ?_
  refine v_aload_n 0 dL_law_469 rfl rfl ?_
  refine v_iload_n 3 dL_law_470 rfl rfl ?_
  refine v_iconst dL_law_471 ?_
  refine v_iadd dL_law_472 ?_
  refine v_sld (j := i + 1) C (by omega) (by omega) dL_law_473 ?_
  refine v_nz (i32_T _) dL_law_474 dL_law_477 dL_law_478 dL_law_481 ?_
  refine v_aload_n 0 dL_law_482 rfl rfl ?_
  refine v_iload_n 3 dL_law_483 rfl rfl ?_
  refine v_iconst dL_law_484 ?_
  refine v_iadd dL_law_485 ?_
  refine v_sld (j := i + 2) C (by omega) (by omega) dL_law_486 ?_
  refine v_nz (i32_T _) dL_law_487 dL_law_490 dL_law_491 dL_law_494 ?_
  refine lV2 4 (c_X4_couple hM1.lay hM1.jv hM1.n hX.r5 (bP_R _) (bP_R _)) k0_X4_couple ki_X4_couple ml_L_45 (rfl : SH 110 = _) (by decide) (lRm C (by decide) (by decide)) dL_law_495 (Nat.le_of_ble_eq_true rfl) (fun r0 M' h => oPost_z h) (fun z2 N' h2 => ?_)
  obtain ⟨hz, hJ2⟩ : z1 = z2 ∧ JR N' := p_op hX hM1 h1 h2 (fun _ => cou_inv hX.inv _ _)
  refine v_icmp_eqS 931 dL_law_498 (by decide) hz ?_
  exact kk N' hJ2
set_option maxRecDepth 100000 in
set_option maxHeartbeats 1000000 in
theorem lc_tick {x : vXX} {Q : State → Prop} {G : vGG} {cl sl Ln i : Nat} {zs : Nat → Int32} {M : Mem} (C : lwC x G cl sl Ln zs) (hi : i + 5 ≤ Ln) (kk : ∀ N, JR N → vLw x Q G cl sl 931 i [] N) (hJ : JR M) : vLw x Q G cl sl 503 i [] M := by
  obtain ⟨v, r, h, ro, ke, kr, t, L, hX, hM⟩ := hJ
  have hLn := C.2.2.2.2.2.2
  refine v_aload_n 1 dL_law_503 rfl rfl ?_
  refine v_aload_n 0 dL_law_504 rfl rfl ?_
  refine v_iload_n 3 dL_law_505 rfl rfl ?_
  refine v_iconst dL_law_506 ?_
  refine v_iadd dL_law_507 ?_
  refine v_sld (j := i + 1) C (by omega) (by omega) dL_law_508 ?_
  refine lV1 3 (c_X3_tick hX.lay hX.xs hX.inv hX.jr hX.r5 hX.hh hX.hB (i32_T _)) k0_X3_tick ki_X3_tick ml_L_46 (rfl : SH 0 = _) (by decide) (lRm C (by decide) (by decide)) dL_law_509 (Nat.le_of_ble_eq_true rfl) (fun r0 M' h => xPost_z h) (fun z1 N h1 => ?_)
  have hM1 := hM.x (N := N) (xPost_x hX h1)
  refine v_aload_n 2 dL_law_512 rfl rfl ?_
  refine v_aload_n 0 dL_law_513 rfl rfl ?_
  refine v_iload_n 3 dL_law_514 rfl rfl ?_
  refine v_iconst dL_law_515 ?_
  refine v_iadd dL_law_516 ?_
  refine v_sld (j := i + 1) C (by omega) (by omega) dL_law_517 ?_
  refine lV1 4 (c_X4_tick hM1.lay hM1.jv hX.inv hM1.n hX.r5 (i32_T _)) k0_X4_tick ki_X4_tick ml_L_50 (rfl : SH 110 = _) (by decide) (lRm C (by decide) (by decide)) dL_law_518 (Nat.le_of_ble_eq_true rfl) (fun r0 M' h => oPost_z h) (fun z2 N' h2 => ?_)
  obtain ⟨hz, hJ2⟩ : z1 = z2 ∧ JR N' := p_op hX hM1 h1 h2 (fun _ => sTks_inv hX.inv _)
  refine v_icmp_eqS 931 dL_law_521 (by decide) hz ?_
  exact kk N' hJ2
set_option maxRecDepth 100000 in
set_option maxHeartbeats 1000000 in
theorem lc_append {x : vXX} {Q : State → Prop} {G : vGG} {cl sl Ln i : Nat} {zs : Nat → Int32} {M : Mem} (C : lwC x G cl sl Ln zs) (hi : i + 5 ≤ Ln) (kk : ∀ N, JR N → vLw x Q G cl sl 931 i [] N) (hJ : JR M) : vLw x Q G cl sl 526 i [] M := by
  obtain ⟨v, r, h, ro, ke, kr, t, L, hX, hM⟩ := hJ
  have hLn := C.2.2.2.2.2.2
  refine v_aload_n 1 dL_law_526 rfl rfl ?_
  refine v_aload_n 0 dL_law_527 rfl rfl ?_
  refine v_iload_n 3 dL_law_528 rfl rfl ?_
  refine v_iconst dL_law_529 ?_
  refine v_iadd dL_law_530 ?_
  refine v_sld (j := i + 1) C (by omega) (by omega) dL_law_531 ?_
  refine lV1 3 (c_X3_append hX.lay hX.tx1 hX.txB.1 (i32_T _)) k0_X3_append ki_X3_append ml_L_51 (rfl : SH 0 = _) (by decide) (lRm C (by decide) (by decide)) dL_law_532 (Nat.le_of_ble_eq_true rfl) (fun r0 M' h => ⟨_, h.1⟩) (fun z1 N h1 => ?_)
  have hM1 := hM.x (N := N) (app_x h1)
  refine v_aload_n 2 dL_law_535 rfl rfl ?_
  refine v_aload_n 0 dL_law_536 rfl rfl ?_
  refine v_iload_n 3 dL_law_537 rfl rfl ?_
  refine v_iconst dL_law_538 ?_
  refine v_iadd dL_law_539 ?_
  refine v_sld (j := i + 1) C (by omega) (by omega) dL_law_540 ?_
  refine lV1 4 (c_X4_append hM1.lay hM1.jt hX.txB.1 (i32_T _)) k0_X4_append ki_X4_append ml_L_54 (rfl : SH 110 = _) (by decide) (lRm C (by decide) (by decide)) dL_law_541 (Nat.le_of_ble_eq_true rfl) (fun r0 M' h => two_z h) (fun z2 N' h2 => ?_)
  obtain ⟨hz, hJ2⟩ : z1 = z2 ∧ JR N' := p_app hX hM1 h1 h2
  refine v_icmp_eqS 931 dL_law_544 (by decide) hz ?_
  exact kk N' hJ2
set_option maxRecDepth 100000 in
set_option maxHeartbeats 1000000 in
theorem lc_clearText {x : vXX} {Q : State → Prop} {G : vGG} {cl sl Ln i : Nat} {zs : Nat → Int32} {M : Mem} (C : lwC x G cl sl Ln zs) (hi : i + 5 ≤ Ln) (kk : ∀ N, JR N → vLw x Q G cl sl 931 i [] N) (hJ : JR M) : vLw x Q G cl sl 549 i [] M := by
  obtain ⟨v, r, h, ro, ke, kr, t, L, hX, hM⟩ := hJ
  have hLn := C.2.2.2.2.2.2
  refine v_aload_n 1 dL_law_549 rfl rfl ?_
  refine lV0 3 (c_X3_clearText hX.lay hX.tx1) k0_X3_clearText ki_X3_clearText ml_L_55 (rfl : SH 0 = _) (by decide) (lRm C (by decide) (by decide)) dL_law_550 (Nat.le_of_ble_eq_true rfl) (fun r0 M' h => ⟨_, h.1⟩) (fun z1 N h1 => ?_)
  have hM1 := hM.x (N := N) (by rw [h1.2]; exact clr_x)
  refine v_aload_n 2 dL_law_553 rfl rfl ?_
  refine lV0 4 (c_X4_clearText) k0_X4_clearText ki_X4_clearText ml_L_59 (rfl : SH 110 = _) (by decide) (lRm C (by decide) (by decide)) dL_law_554 (Nat.le_of_ble_eq_true rfl) (fun r0 M' h => ⟨_, h.1⟩) (fun z2 N' h2 => ?_)
  obtain ⟨hz, hJ2⟩ : z1 = z2 ∧ JR N' := p_clr hX (by rw [← h1.2]; exact hM1) h1 h2
  refine v_icmp_eqS 931 dL_law_557 (by decide) hz ?_
  exact kk N' hJ2
set_option maxRecDepth 100000 in
set_option maxHeartbeats 1000000 in
theorem lc_faultPosition {x : vXX} {Q : State → Prop} {G : vGG} {cl sl Ln i : Nat} {zs : Nat → Int32} {M : Mem} (C : lwC x G cl sl Ln zs) (hi : i + 5 ≤ Ln) (kk : ∀ N, JR N → vLw x Q G cl sl 931 i [] N) (hJ : JR M) : vLw x Q G cl sl 562 i [] M := by
  obtain ⟨v, r, h, ro, ke, kr, t, L, hX, hM⟩ := hJ
  have hLn := C.2.2.2.2.2.2
  refine v_aload_n 1 dL_law_562 rfl rfl ?_
  refine lV0 3 (c_X3_faultPosition hX.lay hX.tx2 hX.tx1 hX.txB) k0_X3_faultPosition ki_X3_faultPosition ml_L_60 (rfl : SH 0 = _) (by decide) (lRm C (by decide) (by decide)) dL_law_563 (Nat.le_of_ble_eq_true rfl) (fun r0 M' h => ⟨_, h.1⟩) (fun z1 N h1 => ?_)
  have hM1 := hM.x (N := N) (by obtain ⟨_, _, _, _, _, x1⟩ := h1.2; exact xfr_xK x1)
  refine v_aload_n 2 dL_law_566 rfl rfl ?_
  refine lV0 4 (c_X4_faultPosition hM1.lay hM1.jL hM1.jt hX.txB) k0_X4_faultPosition ki_X4_faultPosition ml_L_63 (rfl : SH 110 = _) (by decide) (lRm C (by decide) (by decide)) dL_law_567 (Nat.le_of_ble_eq_true rfl) (fun r0 M' h => ⟨_, h.1⟩) (fun z2 N' h2 => ?_)
  obtain ⟨hz, hJ2⟩ : z1 = z2 ∧ JR N' := p_fau hX hM1 h1 h2
  refine v_icmp_eqS 931 dL_law_570 (by decide) hz ?_
  exact kk N' hJ2
set_option maxRecDepth 100000 in
set_option maxHeartbeats 1000000 in
theorem lc_play {x : vXX} {Q : State → Prop} {G : vGG} {cl sl Ln i : Nat} {zs : Nat → Int32} {M : Mem} (C : lwC x G cl sl Ln zs) (hi : i + 5 ≤ Ln) (kk : ∀ N, JR N → vLw x Q G cl sl 931 i [] N) (hJ : JR M) : vLw x Q G cl sl 575 i [] M := by
  obtain ⟨v, r, h, ro, ke, kr, t, L, hX, hM⟩ := hJ
  have hLn := C.2.2.2.2.2.2
  refine v_aload_n 1 dL_law_575 rfl rfl ?_
  refine lV0 3 (c_X3_play hX.lay hX.xs hX.inv hX.jr hX.r5 hX.hh hX.hB hX.tx2 hX.tx1 hX.txB) k0_X3_play ki_X3_play ml_L_64 (rfl : SH 0 = _) (by decide) (lRm C (by decide) (by decide)) dL_law_576 (Nat.le_of_ble_eq_true rfl) (fun r0 M' h => xPlay_z h) (fun z1 N h1 => ?_)
  have hM1 := hM.x (N := N) (xPlay_x hX h1)
  refine v_aload_n 2 dL_law_579 rfl rfl ?_
  refine lV0 4 (c_X4_play hM1.lay hM1.jL hM1.jt hX.txB hM1.jv hX.inv hM1.n hX.r5) k0_X4_play ki_X4_play ml_L_67 (rfl : SH 110 = _) (by decide) (lRm C (by decide) (by decide)) dL_law_580 (Nat.le_of_ble_eq_true rfl) (fun r0 M' h => pPost_z h) (fun z2 N' h2 => ?_)
  obtain ⟨hz, hJ2⟩ : z1 = z2 ∧ JR N' := p_play hX hM1 h1 h2
  refine v_icmp_eqS 931 dL_law_583 (by decide) hz ?_
  exact kk N' hJ2
set_option maxRecDepth 100000 in
set_option maxHeartbeats 1000000 in
theorem lc_tell {x : vXX} {Q : State → Prop} {G : vGG} {cl sl Ln i : Nat} {zs : Nat → Int32} {M : Mem} (C : lwC x G cl sl Ln zs) (hi : i + 5 ≤ Ln) (kk : ∀ N, JR N → vLw x Q G cl sl 931 i [] N) (hJ : JR M) : vLw x Q G cl sl 588 i [] M := by
  obtain ⟨v, r, h, ro, ke, kr, t, L, hX, hM⟩ := hJ
  have hLn := C.2.2.2.2.2.2
  refine v_aload_n 1 dL_law_588 rfl rfl ?_
  refine v_aload_n 0 dL_law_589 rfl rfl ?_
  refine v_iload_n 3 dL_law_590 rfl rfl ?_
  refine v_iconst dL_law_591 ?_
  refine v_iadd dL_law_592 ?_
  refine v_sld (j := i + 1) C (by omega) (by omega) dL_law_593 ?_
  refine lV1 3 (c_X3_tell hX.lay hX.xs hX.inv (i32_T _)) k0_X3_tell ki_X3_tell ml_L_68 (rfl : SH 0 = _) (by decide) (lRm C (by decide) (by decide)) dL_law_594 (Nat.le_of_ble_eq_true rfl) (fun r0 M' h => ⟨_, h.1⟩) (fun z1 N h1 => ?_)
  have hM1 := hM.x (N := N) (xfr_fz h1.2 (by decide))
  refine v_aload_n 2 dL_law_597 rfl rfl ?_
  refine v_aload_n 0 dL_law_598 rfl rfl ?_
  refine v_iload_n 3 dL_law_599 rfl rfl ?_
  refine v_iconst dL_law_600 ?_
  refine v_iadd dL_law_601 ?_
  refine v_sld (j := i + 1) C (by omega) (by omega) dL_law_602 ?_
  refine lV1 4 (c_X4_tell hM1.lay hM1.jv hX.inv (i32_T _)) k0_X4_tell ki_X4_tell ml_L_71 (rfl : SH 110 = _) (by decide) (lRm C (by decide) (by decide)) dL_law_603 (Nat.le_of_ble_eq_true rfl) (fun r0 M' h => ⟨_, h.1⟩) (fun z2 N' h2 => ?_)
  obtain ⟨hz, hJ2⟩ : z1 = z2 ∧ JR N' := ⟨(aI_inj h1.1).trans (aI_inj h2.1).symm, p_q hX hM1 h1.2 fz_J1 h2.2 (by decide) (by decide) ((h2.2.2 111 (by decide)).trans hM1.jv)⟩
  refine v_icmp_eqS 931 dL_law_606 (by decide) hz ?_
  exact kk N' hJ2
set_option maxRecDepth 100000 in
set_option maxHeartbeats 1000000 in
theorem lc_chest {x : vXX} {Q : State → Prop} {G : vGG} {cl sl Ln i : Nat} {zs : Nat → Int32} {M : Mem} (C : lwC x G cl sl Ln zs) (hi : i + 5 ≤ Ln) (kk : ∀ N, JR N → vLw x Q G cl sl 931 i [] N) (hJ : JR M) : vLw x Q G cl sl 611 i [] M := by
  obtain ⟨v, r, h, ro, ke, kr, t, L, hX, hM⟩ := hJ
  have hLn := C.2.2.2.2.2.2
  refine v_aload_n 1 dL_law_611 rfl rfl ?_
  refine v_aload_n 0 dL_law_612 rfl rfl ?_
  refine v_iload_n 3 dL_law_613 rfl rfl ?_
  refine v_iconst dL_law_614 ?_
  refine v_iadd dL_law_615 ?_
  refine v_sld (j := i + 1) C (by omega) (by omega) dL_law_616 ?_
  refine v_aload_n 0 dL_law_617 rfl rfl ?_
  refine v_iload_n 3 dL_law_618 rfl rfl ?_
  refine v_iconst dL_law_619 ?_
  refine v_iadd dL_law_620 ?_
  refine v_sld (j := i + 2) C (by omega) (by omega) dL_law_621 ?_
  refine lV2 3 (c_X3_chest hX.lay hX.xs hX.inv (i32_T _) (i32_T _)) k0_X3_chest ki_X3_chest ml_L_72 (rfl : SH 0 = _) (by decide) (lRm C (by decide) (by decide)) dL_law_622 (Nat.le_of_ble_eq_true rfl) (fun r0 M' h => ⟨_, h.1⟩) (fun z1 N h1 => ?_)
  have hM1 := hM.x (N := N) (xfr_fz h1.2 (by decide))
  refine v_aload_n 2 dL_law_625 rfl rfl ?_
  refine v_aload_n 0 dL_law_626 rfl rfl ?_
  refine v_iload_n 3 dL_law_627 rfl rfl ?_
  refine v_iconst dL_law_628 ?_
  refine v_iadd dL_law_629 ?_
  refine v_sld (j := i + 1) C (by omega) (by omega) dL_law_630 ?_
  refine v_aload_n 0 dL_law_631 rfl rfl ?_
  refine v_iload_n 3 dL_law_632 rfl rfl ?_
  refine v_iconst dL_law_633 ?_
  refine v_iadd dL_law_634 ?_
  refine v_sld (j := i + 2) C (by omega) (by omega) dL_law_635 ?_
  refine lV2 4 (c_X4_chest hM1.lay hM1.jv hX.inv (i32_T _) (i32_T _)) k0_X4_chest ki_X4_chest ml_L_75 (rfl : SH 110 = _) (by decide) (lRm C (by decide) (by decide)) dL_law_636 (Nat.le_of_ble_eq_true rfl) (fun r0 M' h => ⟨_, h.1⟩) (fun z2 N' h2 => ?_)
  obtain ⟨hz, hJ2⟩ : z1 = z2 ∧ JR N' := ⟨(aI_inj h1.1).trans (aI_inj h2.1).symm, p_q hX hM1 h1.2 fz_J1 h2.2 (by decide) (by decide) ((h2.2.2 111 (by decide)).trans hM1.jv)⟩
  refine v_icmp_eqS 931 dL_law_639 (by decide) hz ?_
  exact kk N' hJ2
set_option maxRecDepth 100000 in
set_option maxHeartbeats 1000000 in
theorem lc_strokes {x : vXX} {Q : State → Prop} {G : vGG} {cl sl Ln i : Nat} {zs : Nat → Int32} {M : Mem} (C : lwC x G cl sl Ln zs) (hi : i + 5 ≤ Ln) (kk : ∀ N, JR N → vLw x Q G cl sl 931 i [] N) (hJ : JR M) : vLw x Q G cl sl 644 i [] M := by
  obtain ⟨v, r, h, ro, ke, kr, t, L, hX, hM⟩ := hJ
  have hLn := C.2.2.2.2.2.2
  refine v_aload_n 1 dL_law_644 rfl rfl ?_
  refine v_aload_n 0 dL_law_645 rfl rfl ?_
  refine v_iload_n 3 dL_law_646 rfl rfl ?_
  refine v_iconst dL_law_647 ?_
  refine v_iadd dL_law_648 ?_
  refine v_sld (j := i + 1) C (by omega) (by omega) dL_law_649 ?_
  refine lV1 3 (c_X3_strokes hX.lay hX.xs hX.inv (i32_T _)) k0_X3_strokes ki_X3_strokes ml_L_76 (rfl : SH 0 = _) (by decide) (lRm C (by decide) (by decide)) dL_law_650 (Nat.le_of_ble_eq_true rfl) (fun r0 M' h => ⟨_, h.1⟩) (fun z1 N h1 => ?_)
  have hM1 := hM.x (N := N) (by rw [h1.2]; exact xfr_rf)
  refine v_aload_n 2 dL_law_653 rfl rfl ?_
  refine v_aload_n 0 dL_law_654 rfl rfl ?_
  refine v_iload_n 3 dL_law_655 rfl rfl ?_
  refine v_iconst dL_law_656 ?_
  refine v_iadd dL_law_657 ?_
  refine v_sld (j := i + 1) C (by omega) (by omega) dL_law_658 ?_
  refine lV1 4 (c_X4_strokes hM1.lay hM1.jv hX.inv (i32_T _)) k0_X4_strokes ki_X4_strokes ml_L_79 (rfl : SH 110 = _) (by decide) (lRm C (by decide) (by decide)) dL_law_659 (Nat.le_of_ble_eq_true rfl) (fun r0 M' h => ⟨_, h.1⟩) (fun z2 N' h2 => ?_)
  obtain ⟨hz, hJ2⟩ : z1 = z2 ∧ JR N' := ⟨(aI_inj h1.1).trans (aI_inj h2.1).symm, by rw [h2.2]; exact ⟨_, _, _, _, _, _, _, _, by rw [h1.2]; exact hX, hM1⟩⟩
  refine v_icmp_eqS 931 dL_law_662 (by decide) hz ?_
  exact kk N' hJ2
set_option maxRecDepth 100000 in
set_option maxHeartbeats 1000000 in
theorem lc_pipe {x : vXX} {Q : State → Prop} {G : vGG} {cl sl Ln i : Nat} {zs : Nat → Int32} {M : Mem} (C : lwC x G cl sl Ln zs) (hi : i + 5 ≤ Ln) (kk : ∀ N, JR N → vLw x Q G cl sl 931 i [] N) (hJ : JR M) : vLw x Q G cl sl 667 i [] M := by
  obtain ⟨v, r, h, ro, ke, kr, t, L, hX, hM⟩ := hJ
  have hLn := C.2.2.2.2.2.2
  refine v_aload_n 1 dL_law_667 rfl rfl ?_
  refine v_aload_n 0 dL_law_668 rfl rfl ?_
  refine v_iload_n 3 dL_law_669 rfl rfl ?_
  refine v_iconst dL_law_670 ?_
  refine v_iadd dL_law_671 ?_
  refine v_sld (j := i + 1) C (by omega) (by omega) dL_law_672 ?_
  refine v_aload_n 0 dL_law_673 rfl rfl ?_
  refine v_iload_n 3 dL_law_674 rfl rfl ?_
  refine v_iconst dL_law_675 ?_
  refine v_iadd dL_law_676 ?_
  refine v_sld (j := i + 2) C (by omega) (by omega) dL_law_677 ?_
  refine v_aload_n 0 dL_law_678 rfl rfl ?_
  refine v_iload_n 3 dL_law_679 rfl rfl ?_
  refine v_iconst dL_law_680 ?_
  refine v_iadd dL_law_681 ?_
  refine v_sld (j := i + 3) C (by omega) (by omega) dL_law_682 ?_
  refine lV3 3 (c_X3_pipe hX.lay hX.xs hX.inv (i32_T _) (i32_T _) (i32_T _)) k0_X3_pipe ki_X3_pipe ml_L_80 (rfl : SH 0 = _) (by decide) (lRm C (by decide) (by decide)) dL_law_683 (Nat.le_of_ble_eq_true rfl) (fun r0 M' h => ⟨_, h.1⟩) (fun z1 N h1 => ?_)
  have hM1 := hM.x (N := N) (xfr_fz h1.2 (by decide))
  refine v_aload_n 2 dL_law_686 rfl rfl ?_
  refine v_aload_n 0 dL_law_687 rfl rfl ?_
  refine v_iload_n 3 dL_law_688 rfl rfl ?_
  refine v_iconst dL_law_689 ?_
  refine v_iadd dL_law_690 ?_
  refine v_sld (j := i + 1) C (by omega) (by omega) dL_law_691 ?_
  refine v_aload_n 0 dL_law_692 rfl rfl ?_
  refine v_iload_n 3 dL_law_693 rfl rfl ?_
  refine v_iconst dL_law_694 ?_
  refine v_iadd dL_law_695 ?_
  refine v_sld (j := i + 2) C (by omega) (by omega) dL_law_696 ?_
  refine v_aload_n 0 dL_law_697 rfl rfl ?_
  refine v_iload_n 3 dL_law_698 rfl rfl ?_
  refine v_iconst dL_law_699 ?_
  refine v_iadd dL_law_700 ?_
  refine v_sld (j := i + 3) C (by omega) (by omega) dL_law_701 ?_
  refine lV3 4 (c_X4_pipe hM1.lay hM1.jv hX.inv (i32_T _) (i32_T _) (i32_T _)) k0_X4_pipe ki_X4_pipe ml_L_84 (rfl : SH 110 = _) (by decide) (lRm C (by decide) (by decide)) dL_law_702 (Nat.le_of_ble_eq_true rfl) (fun r0 M' h => ⟨_, h.1⟩) (fun z2 N' h2 => ?_)
  obtain ⟨hz, hJ2⟩ : z1 = z2 ∧ JR N' := ⟨(aI_inj h1.1).trans (aI_inj h2.1).symm, p_q hX hM1 h1.2 fz_J1 h2.2 (by decide) (by decide) ((h2.2.2 111 (by decide)).trans hM1.jv)⟩
  refine v_icmp_eqS 931 dL_law_705 (by decide) hz ?_
  exact kk N' hJ2
set_option maxRecDepth 100000 in
set_option maxHeartbeats 1000000 in
theorem lc_reason {x : vXX} {Q : State → Prop} {G : vGG} {cl sl Ln i : Nat} {zs : Nat → Int32} {M : Mem} (C : lwC x G cl sl Ln zs) (hi : i + 5 ≤ Ln) (kk : ∀ N, JR N → vLw x Q G cl sl 931 i [] N) (hJ : JR M) : vLw x Q G cl sl 710 i [] M := by
  obtain ⟨v, r, h, ro, ke, kr, t, L, hX, hM⟩ := hJ
  have hLn := C.2.2.2.2.2.2
  refine v_aload_n 1 dL_law_710 rfl rfl ?_
  refine v_aload_n 0 dL_law_711 rfl rfl ?_
  refine v_iload_n 3 dL_law_712 rfl rfl ?_
  refine v_iconst dL_law_713 ?_
  refine v_iadd dL_law_714 ?_
  refine v_sld (j := i + 1) C (by omega) (by omega) dL_law_715 ?_
  refine v_aload_n 0 dL_law_716 rfl rfl ?_
  refine v_iload_n 3 dL_law_717 rfl rfl ?_
  refine v_iconst dL_law_718 ?_
  refine v_iadd dL_law_719 ?_
  refine v_sld (j := i + 2) C (by omega) (by omega) dL_law_720 ?_
  refine lV2 3 (c_X3_reason hX.lay hX.xs hX.inv (i32_T _) (i32_T _)) k0_X3_reason ki_X3_reason ml_L_85 (rfl : SH 0 = _) (by decide) (lRm C (by decide) (by decide)) dL_law_721 (Nat.le_of_ble_eq_true rfl) (fun r0 M' h => ⟨_, h.1⟩) (fun z1 N h1 => ?_)
  have hM1 := hM.x (N := N) (xfr_fz h1.2 (by decide))
  refine v_aload_n 2 dL_law_724 rfl rfl ?_
  refine v_aload_n 0 dL_law_725 rfl rfl ?_
  refine v_iload_n 3 dL_law_726 rfl rfl ?_
  refine v_iconst dL_law_727 ?_
  refine v_iadd dL_law_728 ?_
  refine v_sld (j := i + 1) C (by omega) (by omega) dL_law_729 ?_
  refine v_aload_n 0 dL_law_730 rfl rfl ?_
  refine v_iload_n 3 dL_law_731 rfl rfl ?_
  refine v_iconst dL_law_732 ?_
  refine v_iadd dL_law_733 ?_
  refine v_sld (j := i + 2) C (by omega) (by omega) dL_law_734 ?_
  refine lV2 4 (c_X4_reason hM1.lay hM1.jv hX.inv (i32_T _) (i32_T _)) k0_X4_reason ki_X4_reason ml_L_88 (rfl : SH 110 = _) (by decide) (lRm C (by decide) (by decide)) dL_law_735 (Nat.le_of_ble_eq_true rfl) (fun r0 M' h => ⟨_, h.1⟩) (fun z2 N' h2 => ?_)
  obtain ⟨hz, hJ2⟩ : z1 = z2 ∧ JR N' := ⟨(aI_inj h1.1).trans (aI_inj h2.1).symm, p_q hX hM1 h1.2 fz_J1 h2.2 (by decide) (by decide) ((h2.2.2 111 (by decide)).trans hM1.jv)⟩
  refine v_icmp_eqS 931 dL_law_738 (by decide) hz ?_
  exact kk N' hJ2
set_option maxRecDepth 100000 in
set_option maxHeartbeats 1000000 in
theorem lc_tune {x : vXX} {Q : State → Prop} {G : vGG} {cl sl Ln i : Nat} {zs : Nat → Int32} {M : Mem} (C : lwC x G cl sl Ln zs) (hi : i + 5 ≤ Ln) (kk : ∀ N, JR N → vLw x Q G cl sl 931 i [] N) (hJ : JR M) : vLw x Q G cl sl 743 i [] M := by
  obtain ⟨v, r, h, ro, ke, kr, t, L, hX, hM⟩ := hJ
  have hLn := C.2.2.2.2.2.2
  refine v_aload_n 1 dL_law_743 rfl rfl ?_
  refine v_aload_n 0 dL_law_744 rfl rfl ?_
  refine v_iload_n 3 dL_law_745 rfl rfl ?_
  refine v_iconst dL_law_746 ?_
  refine v_iadd dL_law_747 ?_
  refine v_sld (j := i + 1) C (by omega) (by omega) dL_law_748 ?_
  refine v_aload_n 0 dL_law_749 rfl rfl ?_
  refine v_iload_n 3 dL_law_750 rfl rfl ?_
  refine v_iconst dL_law_751 ?_
  refine v_iadd dL_law_752 ?_
  refine v_sld (j := i + 2) C (by omega) (by omega) dL_law_753 ?_
  refine lV2 3 (c_X3_tune hX.lay hX.xs hX.inv hX.jr hX.r5 hX.hh hX.hB (i32_T _) (i32_T _)) k0_X3_tune ki_X3_tune ml_L_89 (rfl : SH 0 = _) (by decide) (lRm C (by decide) (by decide)) dL_law_754 (Nat.le_of_ble_eq_true rfl) (fun r0 M' h => xPostQ_z h) (fun z1 N h1 => ?_)
  have hM1 := hM.x (N := N) (xPostQ_x hX h1)
  refine v_aload_n 2 dL_law_757 rfl rfl ?_
  refine v_aload_n 0 dL_law_758 rfl rfl ?_
  refine v_iload_n 3 dL_law_759 rfl rfl ?_
  refine v_iconst dL_law_760 ?_
  refine v_iadd dL_law_761 ?_
  refine v_sld (j := i + 1) C (by omega) (by omega) dL_law_762 ?_
  refine v_aload_n 0 dL_law_763 rfl rfl ?_
  refine v_iload_n 3 dL_law_764 rfl rfl ?_
  refine v_iconst dL_law_765 ?_
  refine v_iadd dL_law_766 ?_
  refine v_sld (j := i + 2) C (by omega) (by omega) dL_law_767 ?_
  refine lV2 4 (c_X4_tune hM1.lay hM1.jv hX.inv hM1.n hX.r5 (i32_T _) (i32_T _)) k0_X4_tune ki_X4_tune ml_L_92 (rfl : SH 110 = _) (by decide) (lRm C (by decide) (by decide)) dL_law_768 (Nat.le_of_ble_eq_true rfl) (fun r0 M' h => oPostQ_z h) (fun z2 N' h2 => ?_)
  obtain ⟨hz, hJ2⟩ : z1 = z2 ∧ JR N' := p_opQ hX hM1 h1 h2 (fun g => tun_inv hX.inv (by have := g.1; unfold gSK at this; omega) (by have := g.1; unfold gSK at this; omega) g.2.2)
  refine v_icmp_eqS 931 dL_law_771 (by decide) hz ?_
  exact kk N' hJ2
set_option maxRecDepth 100000 in
set_option maxHeartbeats 1000000 in
theorem lc_mistuned {x : vXX} {Q : State → Prop} {G : vGG} {cl sl Ln i : Nat} {zs : Nat → Int32} {M : Mem} (C : lwC x G cl sl Ln zs) (hi : i + 5 ≤ Ln) (kk : ∀ N, JR N → vLw x Q G cl sl 931 i [] N) (hJ : JR M) : vLw x Q G cl sl 776 i [] M := by
  obtain ⟨v, r, h, ro, ke, kr, t, L, hX, hM⟩ := hJ
  have hLn := C.2.2.2.2.2.2
  refine v_aload_n 1 dL_law_776 rfl rfl ?_
  refine lV0 3 (c_X3_mistuned hX.lay hX.xs hX.inv) k0_X3_mistuned ki_X3_mistuned ml_L_93 (rfl : SH 0 = _) (by decide) (lRm C (by decide) (by decide)) dL_law_777 (Nat.le_of_ble_eq_true rfl) (fun r0 M' h => ⟨_, h.1⟩) (fun z1 N h1 => ?_)
  have hM1 := hM.x (N := N) (xfr_fz h1.2 (by decide))
  refine v_aload_n 2 dL_law_780 rfl rfl ?_
  refine lV0 4 (c_X4_mistuned hM1.lay hM1.jv hX.inv) k0_X4_mistuned ki_X4_mistuned ml_L_96 (rfl : SH 110 = _) (by decide) (lRm C (by decide) (by decide)) dL_law_781 (Nat.le_of_ble_eq_true rfl) (fun r0 M' h => ⟨_, h.1⟩) (fun z2 N' h2 => ?_)
  obtain ⟨hz, hJ2⟩ : z1 = z2 ∧ JR N' := ⟨(aI_inj h1.1).trans (aI_inj h2.1).symm, p_q hX hM1 h1.2 fz_J1 h2.2 (by decide) (by decide) ((h2.2.2 111 (by decide)).trans hM1.jv)⟩
  refine v_icmp_eqS 931 dL_law_784 (by decide) hz ?_
  exact kk N' hJ2
set_option maxRecDepth 100000 in
set_option maxHeartbeats 1000000 in
theorem lc_search {x : vXX} {Q : State → Prop} {G : vGG} {cl sl Ln i : Nat} {zs : Nat → Int32} {M : Mem} (C : lwC x G cl sl Ln zs) (hi : i + 5 ≤ Ln) (kk : ∀ N, JR N → vLw x Q G cl sl 931 i [] N) (hJ : JR M) : vLw x Q G cl sl 789 i [] M := by
  obtain ⟨v, r, h, ro, ke, kr, t, L, hX, hM⟩ := hJ
  have hLn := C.2.2.2.2.2.2
  refine v_aload_n 1 dL_law_789 rfl rfl ?_
  refine v_aload_n 0 dL_law_790 rfl rfl ?_
  refine v_iload_n 3 dL_law_791 rfl rfl ?_
  refine v_iconst dL_law_792 ?_
  refine v_iadd dL_law_793 ?_
  refine v_sld (j := i + 1) C (by omega) (by omega) dL_law_794 ?_
  refine lV1 3 (c_X3_search hX.lay hX.xs hX.inv (i32_T _)) k0_X3_search ki_X3_search ml_L_97 (rfl : SH 0 = _) (by decide) (lRm C (by decide) (by decide)) dL_law_795 (Nat.le_of_ble_eq_true rfl) (fun r0 M' h => ⟨_, h.1⟩) (fun z1 N h1 => ?_)
  have hM1 := hM.x (N := N) (xfr_fz h1.2 (by decide))
  refine v_aload_n 2 dL_law_798 rfl rfl ?_
  refine v_aload_n 0 dL_law_799 rfl rfl ?_
  refine v_iload_n 3 dL_law_800 rfl rfl ?_
  refine v_iconst dL_law_801 ?_
  refine v_iadd dL_law_802 ?_
  refine v_sld (j := i + 1) C (by omega) (by omega) dL_law_803 ?_
  refine lV1 4 (c_X4_search hM1.lay hM1.jv hX.inv (i32_T _)) k0_X4_search ki_X4_search ml_L_100 (rfl : SH 110 = _) (by decide) (lRm C (by decide) (by decide)) dL_law_804 (Nat.le_of_ble_eq_true rfl) (fun r0 M' h => ⟨_, h.1⟩) (fun z2 N' h2 => ?_)
  obtain ⟨hz, hJ2⟩ : z1 = z2 ∧ JR N' := ⟨(aI_inj h1.1).trans (aI_inj h2.1).symm, p_q hX hM1 h1.2 fz_J2 h2.2 (by decide) (by decide) ((h2.2.2 111 (by decide)).trans hM1.jv)⟩
  refine v_icmp_eqS 931 dL_law_807 (by decide) hz ?_
  exact kk N' hJ2
set_option maxRecDepth 100000 in
set_option maxHeartbeats 1000000 in
theorem lc_robbed {x : vXX} {Q : State → Prop} {G : vGG} {cl sl Ln i : Nat} {zs : Nat → Int32} {M : Mem} (C : lwC x G cl sl Ln zs) (hi : i + 5 ≤ Ln) (kk : ∀ N, JR N → vLw x Q G cl sl 931 i [] N) (hJ : JR M) : vLw x Q G cl sl 812 i [] M := by
  obtain ⟨v, r, h, ro, ke, kr, t, L, hX, hM⟩ := hJ
  have hLn := C.2.2.2.2.2.2
  refine v_aload_n 1 dL_law_812 rfl rfl ?_
  refine v_aload_n 0 dL_law_813 rfl rfl ?_
  refine v_iload_n 3 dL_law_814 rfl rfl ?_
  refine v_iconst dL_law_815 ?_
  refine v_iadd dL_law_816 ?_
  refine v_sld (j := i + 1) C (by omega) (by omega) dL_law_817 ?_
  refine lV1 3 (c_X3_robbed hX.lay hX.xs hX.inv (i32_T _)) k0_X3_robbed ki_X3_robbed ml_L_101 (rfl : SH 0 = _) (by decide) (lRm C (by decide) (by decide)) dL_law_818 (Nat.le_of_ble_eq_true rfl) (fun r0 M' h => ⟨_, h.1⟩) (fun z1 N h1 => ?_)
  have hM1 := hM.x (N := N) (xfr_fz h1.2 (by decide))
  refine v_aload_n 2 dL_law_821 rfl rfl ?_
  refine v_aload_n 0 dL_law_822 rfl rfl ?_
  refine v_iload_n 3 dL_law_823 rfl rfl ?_
  refine v_iconst dL_law_824 ?_
  refine v_iadd dL_law_825 ?_
  refine v_sld (j := i + 1) C (by omega) (by omega) dL_law_826 ?_
  refine lV1 4 (c_X4_robbed hM1.lay hM1.jv hX.inv (i32_T _)) k0_X4_robbed ki_X4_robbed ml_L_104 (rfl : SH 110 = _) (by decide) (lRm C (by decide) (by decide)) dL_law_827 (Nat.le_of_ble_eq_true rfl) (fun r0 M' h => ⟨_, h.1⟩) (fun z2 N' h2 => ?_)
  obtain ⟨hz, hJ2⟩ : z1 = z2 ∧ JR N' := ⟨(aI_inj h1.1).trans (aI_inj h2.1).symm, p_q hX hM1 h1.2 fz_J1 h2.2 (by decide) (by decide) ((h2.2.2 111 (by decide)).trans hM1.jv)⟩
  refine v_icmp_eqS 931 dL_law_830 (by decide) hz ?_
  exact kk N' hJ2
set_option maxRecDepth 100000 in
set_option maxHeartbeats 1000000 in
theorem lc_lowest {x : vXX} {Q : State → Prop} {G : vGG} {cl sl Ln i : Nat} {zs : Nat → Int32} {M : Mem} (C : lwC x G cl sl Ln zs) (hi : i + 5 ≤ Ln) (kk : ∀ N, JR N → vLw x Q G cl sl 931 i [] N) (hJ : JR M) : vLw x Q G cl sl 835 i [] M := by
  obtain ⟨v, r, h, ro, ke, kr, t, L, hX, hM⟩ := hJ
  have hLn := C.2.2.2.2.2.2
  refine v_aload_n 1 dL_law_835 rfl rfl ?_
  refine v_aload_n 0 dL_law_836 rfl rfl ?_
  refine v_iload_n 3 dL_law_837 rfl rfl ?_
  refine v_iconst dL_law_838 ?_
  refine v_iadd dL_law_839 ?_
  refine v_sld (j := i + 1) C (by omega) (by omega) dL_law_840 ?_
  refine lV1 3 (c_X3_lowest hX.lay hX.xs hX.inv (i32_T _)) k0_X3_lowest ki_X3_lowest ml_L_105 (rfl : SH 0 = _) (by decide) (lRm C (by decide) (by decide)) dL_law_841 (Nat.le_of_ble_eq_true rfl) (fun r0 M' h => ⟨_, h.1⟩) (fun z1 N h1 => ?_)
  have hM1 := hM.x (N := N) (xfr_fz h1.2 (by decide))
  refine v_aload_n 2 dL_law_844 rfl rfl ?_
  refine v_aload_n 0 dL_law_845 rfl rfl ?_
  refine v_iload_n 3 dL_law_846 rfl rfl ?_
  refine v_iconst dL_law_847 ?_
  refine v_iadd dL_law_848 ?_
  refine v_sld (j := i + 1) C (by omega) (by omega) dL_law_849 ?_
  refine lV1 4 (c_X4_lowest hM1.lay hM1.jv hX.inv (i32_T _)) k0_X4_lowest ki_X4_lowest ml_L_108 (rfl : SH 110 = _) (by decide) (lRm C (by decide) (by decide)) dL_law_850 (Nat.le_of_ble_eq_true rfl) (fun r0 M' h => ⟨_, h.1⟩) (fun z2 N' h2 => ?_)
  obtain ⟨hz, hJ2⟩ : z1 = z2 ∧ JR N' := ⟨(aI_inj h1.1).trans (aI_inj h2.1).symm, p_q hX hM1 h1.2 fz_J3 h2.2.1 (by decide) (by decide) h2.2.2⟩
  refine v_icmp_eqS 931 dL_law_853 (by decide) hz ?_
  exact kk N' hJ2
set_option maxRecDepth 100000 in
set_option maxHeartbeats 1000000 in
theorem lc_undo {x : vXX} {Q : State → Prop} {G : vGG} {cl sl Ln i : Nat} {zs : Nat → Int32} {M : Mem} (C : lwC x G cl sl Ln zs) (hi : i + 5 ≤ Ln) (kk : ∀ N, JR N → vLw x Q G cl sl 931 i [] N) (hJ : JR M) : vLw x Q G cl sl 858 i [] M := by
  obtain ⟨v, r, h, ro, ke, kr, t, L, hX, hM⟩ := hJ
  have hLn := C.2.2.2.2.2.2
  refine v_aload_n 1 dL_law_858 rfl rfl ?_
  refine lV0 3 (c_X3_undo hX.lay hX.jr hX.r5 hX.hh hX.hB (undo_u hX)) k0_X3_undo ki_X3_undo ml_L_109 (rfl : SH 0 = _) (by decide) (lRm C (by decide) (by decide)) dL_law_859 (Nat.le_of_ble_eq_true rfl) (fun r0 M' h => undo_z h) (fun z1 N h1 => ?_)
  have hM1 := hM.x (N := N) (undo_x h1)
  refine v_aload_n 2 dL_law_862 rfl rfl ?_
  refine lV0 4 (c_X4_undo hM1.lay hM1.n hX.r5) k0_X4_undo ki_X4_undo ml_L_112 (rfl : SH 110 = _) (by decide) (lRm C (by decide) (by decide)) dL_law_863 (Nat.le_of_ble_eq_true rfl) (fun r0 M' h => undo_z h) (fun z2 N' h2 => ?_)
  obtain ⟨hz, hJ2⟩ : z1 = z2 ∧ JR N' := p_undo hX hM1 h1 h2
  refine v_icmp_eqS 931 dL_law_866 (by decide) hz ?_
  exact kk N' hJ2
set_option maxRecDepth 100000 in
set_option maxHeartbeats 1000000 in
theorem lc_save {x : vXX} {Q : State → Prop} {G : vGG} {cl sl Ln i : Nat} {zs : Nat → Int32} {M : Mem} (C : lwC x G cl sl Ln zs) (hi : i + 5 ≤ Ln) (kk : ∀ N, JR N → vLw x Q G cl sl 931 i [] N) (hJ : JR M) : vLw x Q G cl sl 871 i [] M := by
  obtain ⟨v, r, h, ro, ke, kr, t, L, hX, hM⟩ := hJ
  have hLn := C.2.2.2.2.2.2
  refine v_aload_n 1 dL_law_871 rfl rfl ?_
  refine v_aload_n 0 dL_law_872 rfl rfl ?_
  refine v_iload_n 3 dL_law_873 rfl rfl ?_
  refine v_iconst dL_law_874 ?_
  refine v_iadd dL_law_875 ?_
  refine v_sld (j := i + 1) C (by omega) (by omega) dL_law_876 ?_
  refine lV1 3 (c_X3_save hX.lay hX.xs hX.inv (i32_T _)) k0_X3_save ki_X3_save ml_L_113 (rfl : SH 0 = _) (by decide) (lRm C (by decide) (by decide)) dL_law_877 (Nat.le_of_ble_eq_true rfl) (fun r0 M' h => two_z h) (fun z1 N h1 => ?_)
  have hM1 := hM.x (N := N) (save_x h1)
  refine v_aload_n 2 dL_law_880 rfl rfl ?_
  refine v_aload_n 0 dL_law_881 rfl rfl ?_
  refine v_iload_n 3 dL_law_882 rfl rfl ?_
  refine v_iconst dL_law_883 ?_
  refine v_iadd dL_law_884 ?_
  refine v_sld (j := i + 1) C (by omega) (by omega) dL_law_885 ?_
  refine lV1 4 (c_X4_save hM1.lay hM1.jv (i32_T _)) k0_X4_save ki_X4_save ml_L_116 (rfl : SH 110 = _) (by decide) (lRm C (by decide) (by decide)) dL_law_886 (Nat.le_of_ble_eq_true rfl) (fun r0 M' h => two_z h) (fun z2 N' h2 => ?_)
  obtain ⟨hz, hJ2⟩ : z1 = z2 ∧ JR N' := p_save hX hM1 h1 h2
  refine v_icmp_eqS 931 dL_law_889 (by decide) hz ?_
  exact kk N' hJ2
set_option maxRecDepth 100000 in
set_option maxHeartbeats 1000000 in
theorem lc_restore {x : vXX} {Q : State → Prop} {G : vGG} {cl sl Ln i : Nat} {zs : Nat → Int32} {M : Mem} (C : lwC x G cl sl Ln zs) (hi : i + 5 ≤ Ln) (kk : ∀ N, JR N → vLw x Q G cl sl 931 i [] N) (hJ : JR M) : vLw x Q G cl sl 894 i [] M := by
  obtain ⟨v, r, h, ro, ke, kr, t, L, hX, hM⟩ := hJ
  have hLn := C.2.2.2.2.2.2
  refine v_aload_n 1 dL_law_894 rfl rfl ?_
  refine v_aload_n 0 dL_law_895 rfl rfl ?_
  refine v_iload_n 3 dL_law_896 rfl rfl ?_
  refine v_iconst dL_law_897 ?_
  refine v_iadd dL_law_898 ?_
  refine v_sld (j := i + 1) C (by omega) (by omega) dL_law_899 ?_
  refine lV1 3 (c_X3_restore hX.lay hX.xs hX.inv hX.jr hX.r5 hX.hh hX.hB hX.k (i32_T _) (rest_u hX)) k0_X3_restore ki_X3_restore ml_L_117 (rfl : SH 0 = _) (by decide) (lRm C (by decide) (by decide)) dL_law_900 (Nat.le_of_ble_eq_true rfl) (fun r0 M' h => two_z h) (fun z1 N h1 => ?_)
  have hM1 := hM.x (N := N) (rest_x hX h1)
  refine v_aload_n 2 dL_law_903 rfl rfl ?_
  refine v_aload_n 0 dL_law_904 rfl rfl ?_
  refine v_iload_n 3 dL_law_905 rfl rfl ?_
  refine v_iconst dL_law_906 ?_
  refine v_iadd dL_law_907 ?_
  refine v_sld (j := i + 1) C (by omega) (by omega) dL_law_908 ?_
  refine lV1 4 (c_X4_restore hM1.lay hM1.jv hM1.n hX.r5 (rest_k hX hM1) (i32_T _)) k0_X4_restore ki_X4_restore ml_L_120 (rfl : SH 110 = _) (by decide) (lRm C (by decide) (by decide)) dL_law_909 (Nat.le_of_ble_eq_true rfl) (fun r0 M' h => two_z h) (fun z2 N' h2 => ?_)
  obtain ⟨hz, hJ2⟩ : z1 = z2 ∧ JR N' := p_rest hX hM1 h1 h2
  refine v_icmp_eqS 931 dL_law_912 (by decide) hz ?_
  exact kk N' hJ2
set_option maxRecDepth 100000 in
set_option maxHeartbeats 1000000 in
theorem lc_checksum {x : vXX} {Q : State → Prop} {G : vGG} {cl sl Ln i : Nat} {zs : Nat → Int32} {M : Mem} (C : lwC x G cl sl Ln zs) (hi : i + 5 ≤ Ln) (kk : ∀ N, JR N → vLw x Q G cl sl 931 i [] N) (hJ : JR M) : vLw x Q G cl sl 917 i [] M := by
  obtain ⟨v, r, h, ro, ke, kr, t, L, hX, hM⟩ := hJ
  have hLn := C.2.2.2.2.2.2
  refine v_aload_n 1 dL_law_917 rfl rfl ?_
  refine lW0 3 (c_X3_checksum hX.lay hX.xs hX.inv) k0_X3_checksum ki_X3_checksum ml_L_121 (rfl : SH 0 = _) (by decide) (lRm C (by decide) (by decide)) dL_law_918 (Nat.le_of_ble_eq_true rfl) (fun r0 M' h => ⟨_, h.1⟩) (fun z1 N h1 => ?_)
  have hM1 := hM.x (N := N) (xfr_fz h1.2 (by decide))
  refine v_aload_n 2 dL_law_921 rfl rfl ?_
  refine lW0 4 (c_X4_checksum hM1.lay hM1.jv hX.inv) k0_X4_checksum ki_X4_checksum ml_L_125 (rfl : SH 110 = _) (by decide) (lRm C (by decide) (by decide)) dL_law_922 (Nat.le_of_ble_eq_true rfl) (fun r0 M' h => ⟨_, h.1⟩) (fun z2 N' h2 => ?_)
  obtain ⟨hz, hJ2⟩ : z1 = z2 ∧ JR N' := ⟨(aL_inj h1.1).trans (aL_inj h2.1).symm, p_q hX hM1 h1.2 fz_J1 h2.2 (by decide) (by decide) ((h2.2.2 111 (by decide)).trans hM1.jv)⟩
  refine v_lcmpS dL_law_925 hz ?_
  refine v_if_eq 931 dL_law_926 (by decide) (by decide) (fun _ => kk N' hJ2) (fun h => absurd rfl h)
set_option maxRecDepth 100000 in
set_option maxHeartbeats 1000000 in
theorem law_loop {x : vXX} {Q : State → Prop} {G : vGG} {cl sl Ln : Nat} {zs : Nat → Int32} (C : lwC x G cl sl Ln zs) (hE : ∀ i M, vLw x Q G cl sl 937 i [] M) : ∀ (dd i : Nat) (M : Mem), Ln ≤ i + dd → i ≤ Ln → JR M → vLw x Q G cl sl 18 i [] M := by
  have hLn := C.2.2.2.2.2.2
  intro dd
  induction dd with
  | zero =>
    intro i M hd hi hJ
    refine v_iload_n 3 dL_law_18 rfl rfl ?_
    refine v_aload_n 0 dL_law_19 rfl rfl ?_
    refine v_slen C dL_law_20 ?_
    refine v_iconst dL_law_21 ?_
    refine v_isub dL_law_22 ?_
    refine v_icmp_gt 937 dL_law_23 (by decide) (by omega) (by omega) (fun h => hE i M) (fun h => ?_)
    exact absurd h (by omega)
  | succ dd ih =>
    intro i M hd hi hJ
    refine v_iload_n 3 dL_law_18 rfl rfl ?_
    refine v_aload_n 0 dL_law_19 rfl rfl ?_
    refine v_slen C dL_law_20 ?_
    refine v_iconst dL_law_21 ?_
    refine v_isub dL_law_22 ?_
    refine v_icmp_gt 937 dL_law_23 (by decide) (by omega) (by omega) (fun h => hE i M) (fun h => ?_)
    have hi5 : i + 5 ≤ Ln := by omega
    have kk : ∀ N, JR N → vLw x Q G cl sl 931 i [] N := fun N hN => by
      refine v_iinc3 dL_law_931 rfl ?_
      refine v_goto 18 dL_law_934 (by decide) ?_
      exact ih (i + 5) N (by omega) hi5 hN
    refine v_aload_n 0 dL_law_26 rfl rfl ?_
    refine v_iload_n 3 dL_law_27 rfl rfl ?_
    refine v_sld (j := i) C rfl (by omega) dL_law_28 ?_
    refine v_bipush dL_law_29 (by decide) ?_
    refine v_iand dL_law_31 ?_
    obtain ⟨w, hw⟩ : ∃ w, w = vand (zs i).toInt 31 := ⟨_, rfl⟩
    rw [← hw]
    have hwR : R32 w := by rw [hw]; exact i32_T _
    rcases (show w = 0 ∨ w = 1 ∨ w = 2 ∨ w = 3 ∨ w = 4 ∨ w = 5 ∨ w = 6 ∨ w = 7 ∨ w = 8 ∨ w = 9 ∨ w = 10 ∨ w = 11 ∨ w = 12 ∨ w = 13 ∨ w = 14 ∨ w = 15 ∨ w = 16 ∨ w = 17 ∨ w = 18 ∨ w = 19 ∨ w = 20 ∨ w = 21 ∨ w = 22 ∨ w = 23 ∨ w = 24 ∨ w = 25 ∨ ¬ (0 ≤ w ∧ w ≤ 25) by omega) with rfl | rfl | rfl | rfl | rfl | rfl | rfl | rfl | rfl | rfl | rfl | rfl | rfl | rfl | rfl | rfl | rfl | rfl | rfl | rfl | rfl | rfl | rfl | rfl | rfl | rfl | hw0
    · exact v_tableIn 152 dL_law_32 (by decide) (by decide) (by decide) rfl (by decide) (lc_layOut C hi5 kk hJ)
    · exact v_tableIn 205 dL_law_32 (by decide) (by decide) (by decide) rfl (by decide) (lc_stop C hi5 kk hJ)
    · exact v_tableIn 238 dL_law_32 (by decide) (by decide) (by decide) rfl (by decide) (lc_set C hi5 kk hJ)
    · exact v_tableIn 271 dL_law_32 (by decide) (by decide) (by decide) rfl (by decide) (lc_cipher C hi5 kk hJ)
    · exact v_tableIn 330 dL_law_32 (by decide) (by decide) (by decide) rfl (by decide) (lc_draw C hi5 kk hJ)
    · exact v_tableIn 379 dL_law_32 (by decide) (by decide) (by decide) rfl (by decide) (lc_press C hi5 kk hJ)
    · exact v_tableIn 438 dL_law_32 (by decide) (by decide) (by decide) rfl (by decide) (lc_couple C hi5 kk hJ)
    · exact v_tableIn 503 dL_law_32 (by decide) (by decide) (by decide) rfl (by decide) (lc_tick C hi5 kk hJ)
    · exact v_tableIn 526 dL_law_32 (by decide) (by decide) (by decide) rfl (by decide) (lc_append C hi5 kk hJ)
    · exact v_tableIn 549 dL_law_32 (by decide) (by decide) (by decide) rfl (by decide) (lc_clearText C hi5 kk hJ)
    · exact v_tableIn 562 dL_law_32 (by decide) (by decide) (by decide) rfl (by decide) (lc_faultPosition C hi5 kk hJ)
    · exact v_tableIn 575 dL_law_32 (by decide) (by decide) (by decide) rfl (by decide) (lc_play C hi5 kk hJ)
    · exact v_tableIn 588 dL_law_32 (by decide) (by decide) (by decide) rfl (by decide) (lc_tell C hi5 kk hJ)
    · exact v_tableIn 611 dL_law_32 (by decide) (by decide) (by decide) rfl (by decide) (lc_chest C hi5 kk hJ)
    · exact v_tableIn 644 dL_law_32 (by decide) (by decide) (by decide) rfl (by decide) (lc_strokes C hi5 kk hJ)
    · exact v_tableIn 667 dL_law_32 (by decide) (by decide) (by decide) rfl (by decide) (lc_pipe C hi5 kk hJ)
    · exact v_tableIn 710 dL_law_32 (by decide) (by decide) (by decide) rfl (by decide) (lc_reason C hi5 kk hJ)
    · exact v_tableIn 743 dL_law_32 (by decide) (by decide) (by decide) rfl (by decide) (lc_tune C hi5 kk hJ)
    · exact v_tableIn 776 dL_law_32 (by decide) (by decide) (by decide) rfl (by decide) (lc_mistuned C hi5 kk hJ)
    · exact v_tableIn 789 dL_law_32 (by decide) (by decide) (by decide) rfl (by decide) (lc_search C hi5 kk hJ)
    · exact v_tableIn 812 dL_law_32 (by decide) (by decide) (by decide) rfl (by decide) (lc_robbed C hi5 kk hJ)
    · exact v_tableIn 835 dL_law_32 (by decide) (by decide) (by decide) rfl (by decide) (lc_lowest C hi5 kk hJ)
    · exact v_tableIn 858 dL_law_32 (by decide) (by decide) (by decide) rfl (by decide) (lc_undo C hi5 kk hJ)
    · exact v_tableIn 871 dL_law_32 (by decide) (by decide) (by decide) rfl (by decide) (lc_save C hi5 kk hJ)
    · exact v_tableIn 894 dL_law_32 (by decide) (by decide) (by decide) rfl (by decide) (lc_restore C hi5 kk hJ)
    · exact v_tableIn 917 dL_law_32 (by decide) (by decide) (by decide) rfl (by decide) (lc_checksum C hi5 kk hJ)
    · exact v_tableOut 931 dL_law_32 hwR (by omega) (by decide) (kk M hJ)
