/-! ===== the final shape: which id is what; contracts of methods that make nothing ===== -/
def stSh : Nat → Option Shp
  | 0 => some (.inl 0)
  | 6 => some (.inr (0, 192))
  | 7 => some (.inr (0, 9))
  | 8 => some (.inr (0, 2))
  | 9 => some (.inr (0, 2))
  | _ => some (.inr (0, 8))
def wiSh : Nat → Option Shp
  | 0 => some (.inl 2)
  | 2 => some (.inr (0, 2))
  | 3 => some (.inr (0, 2))
  | 5 => some (.inr (0, 192))
  | _ => some (.inr (0, 8))
def moSh : Nat → Option Shp
  | 0 => some (.inr (0, 40))
  | 1 => some (.inr (0, 9))
  | 2 => some (.inr (0, 8))
  | 3 => some (.inr (0, 15))
  | _ => none
def SH (i : Nat) : Option Shp :=
  if i = 0 then some (.inl 3) else if i < 21 then stSh ((i - 1) % 10) else if i = 21 then some (.inr (2, 5)) else if i = 22 then some (.inr (2, 2)) else if i = 23 then some (.inr (1, 2)) else if i = 24 then some (.inl 1) else if i = 25 then some (.inr (0, 80)) else if i < 33 then wiSh (i - 26) else if i < 40 then wiSh (i - 33) else if i < 110 then stSh ((i - 40) % 10) else if i < 1000 then moSh (i - 110) else if i < 1003 then some (.inr (0, 9)) else none
def stB (b : Nat) : Prop := b = 1 ∨ b = 11 ∨ b = 40 ∨ b = 50 ∨ b = 60 ∨ b = 70 ∨ b = 80 ∨ b = 90 ∨ b = 100
def wiB (w : Nat) : Prop := w = 26 ∨ w = 33
theorem stB_1 : stB 1 := by unfold stB; omega
theorem stB_11 : stB 11 := by unfold stB; omega
theorem stB_40 : stB 40 := by unfold stB; omega
theorem stB_50 : stB 50 := by unfold stB; omega
theorem stB_60 : stB 60 := by unfold stB; omega
theorem stB_70 : stB 70 := by unfold stB; omega
theorem stB_80 : stB 80 := by unfold stB; omega
theorem stB_90 : stB 90 := by unfold stB; omega
theorem stB_100 : stB 100 := by unfold stB; omega
theorem wiB_26 : wiB 26 := by unfold wiB; omega
theorem wiB_33 : wiB 33 := by unfold wiB; omega
theorem st_o {b : Nat} (h : stB b) : SH b = some (.inl 0) := by
  rcases h with rfl | rfl | rfl | rfl | rfl | rfl | rfl | rfl | rfl <;> rfl
theorem st_a0 {b : Nat} (h : stB b) : SH (b + 1 + 0) = some (.inr (0, 8)) := by
  rcases h with rfl | rfl | rfl | rfl | rfl | rfl | rfl | rfl | rfl <;> rfl
theorem st_a1 {b : Nat} (h : stB b) : SH (b + 1 + 1) = some (.inr (0, 8)) := by
  rcases h with rfl | rfl | rfl | rfl | rfl | rfl | rfl | rfl | rfl <;> rfl
theorem st_a2 {b : Nat} (h : stB b) : SH (b + 1 + 2) = some (.inr (0, 8)) := by
  rcases h with rfl | rfl | rfl | rfl | rfl | rfl | rfl | rfl | rfl <;> rfl
theorem st_a3 {b : Nat} (h : stB b) : SH (b + 1 + 3) = some (.inr (0, 8)) := by
  rcases h with rfl | rfl | rfl | rfl | rfl | rfl | rfl | rfl | rfl <;> rfl
theorem st_a4 {b : Nat} (h : stB b) : SH (b + 1 + 4) = some (.inr (0, 8)) := by
  rcases h with rfl | rfl | rfl | rfl | rfl | rfl | rfl | rfl | rfl <;> rfl
theorem st_a5 {b : Nat} (h : stB b) : SH (b + 1 + 5) = some (.inr (0, 192)) := by
  rcases h with rfl | rfl | rfl | rfl | rfl | rfl | rfl | rfl | rfl <;> rfl
theorem st_a6 {b : Nat} (h : stB b) : SH (b + 1 + 6) = some (.inr (0, 9)) := by
  rcases h with rfl | rfl | rfl | rfl | rfl | rfl | rfl | rfl | rfl <;> rfl
theorem st_a7 {b : Nat} (h : stB b) : SH (b + 1 + 7) = some (.inr (0, 2)) := by
  rcases h with rfl | rfl | rfl | rfl | rfl | rfl | rfl | rfl | rfl <;> rfl
theorem st_a8 {b : Nat} (h : stB b) : SH (b + 1 + 8) = some (.inr (0, 2)) := by
  rcases h with rfl | rfl | rfl | rfl | rfl | rfl | rfl | rfl | rfl <;> rfl
theorem wi_o {w : Nat} (h : wiB w) : SH w = some (.inl 2) := by
  rcases h with rfl | rfl <;> rfl
theorem wi_a0 {w : Nat} (h : wiB w) : SH (w + 1 + 0) = some (.inr (0, 8)) := by
  rcases h with rfl | rfl <;> rfl
theorem wi_a1 {w : Nat} (h : wiB w) : SH (w + 1 + 1) = some (.inr (0, 2)) := by
  rcases h with rfl | rfl <;> rfl
theorem wi_a2 {w : Nat} (h : wiB w) : SH (w + 1 + 2) = some (.inr (0, 2)) := by
  rcases h with rfl | rfl <;> rfl
theorem wi_a3 {w : Nat} (h : wiB w) : SH (w + 1 + 3) = some (.inr (0, 8)) := by
  rcases h with rfl | rfl <;> rfl
theorem wi_a4 {w : Nat} (h : wiB w) : SH (w + 1 + 4) = some (.inr (0, 192)) := by
  rcases h with rfl | rfl <;> rfl
theorem wi_a5 {w : Nat} (h : wiB w) : SH (w + 1 + 5) = some (.inr (0, 8)) := by
  rcases h with rfl | rfl <;> rfl
theorem stB_lt {b : Nat} (h : stB b) : b + 10 ≤ 110 ∧ 1 ≤ b := by unfold stB at h; omega
theorem wiB_lt {w : Nat} (h : wiB w) : w + 7 ≤ 40 ∧ 26 ≤ w := by unfold wiB at h; omega
/-- the references: which cell each field of the class and of the twin holds -/
def LayX (r : Nat → Nat → Option Nat) : Prop :=
  (∀ b, stB b → ∀ k, k < 9 → r b k = some (b + 1 + k)) ∧ (∀ w, wiB w → ∀ k, k < 6 → r w k = some (w + 1 + k)) ∧ r 24 0 = some 25 ∧
  (r 0 0 = some 1 ∧ r 0 1 = some 11 ∧ r 0 2 = some 21 ∧ r 0 3 = some 22 ∧ r 0 4 = some 23 ∧ r 0 5 = some 24 ∧ r 0 6 = some 26 ∧ r 0 7 = some 33) ∧ r 22 0 = some 90 ∧ r 22 1 = some 100
theorem ow_0 {r : Nat → Nat → Option Nat} (h : LayX r) : r 0 0 = some 1 := h.2.2.2.1.1
theorem ow_1 {r : Nat → Nat → Option Nat} (h : LayX r) : r 0 1 = some 11 := h.2.2.2.1.2.1
theorem ow_2 {r : Nat → Nat → Option Nat} (h : LayX r) : r 0 2 = some 21 := h.2.2.2.1.2.2.1
theorem ow_3 {r : Nat → Nat → Option Nat} (h : LayX r) : r 0 3 = some 22 := h.2.2.2.1.2.2.2.1
theorem ow_4 {r : Nat → Nat → Option Nat} (h : LayX r) : r 0 4 = some 23 := h.2.2.2.1.2.2.2.2.1
theorem ow_5 {r : Nat → Nat → Option Nat} (h : LayX r) : r 0 5 = some 24 := h.2.2.2.1.2.2.2.2.2.1
theorem ow_6 {r : Nat → Nat → Option Nat} (h : LayX r) : r 0 6 = some 26 := h.2.2.2.1.2.2.2.2.2.2.1
theorem ow_7 {r : Nat → Nat → Option Nat} (h : LayX r) : r 0 7 = some 33 := h.2.2.2.1.2.2.2.2.2.2.2
theorem tx_0 {r : Nat → Nat → Option Nat} (h : LayX r) : r 24 0 = some 25 := h.2.2.1
theorem sl_0 {r : Nat → Nat → Option Nat} (h : LayX r) : r 22 0 = some 90 := h.2.2.2.2.1
theorem sl_1 {r : Nat → Nat → Option Nat} (h : LayX r) : r 22 1 = some 100 := h.2.2.2.2.2
/-- a contract of a method that makes nothing -/
def vP (P : Option AV → Mem → Prop) : vPost := fun r sh' n' M' => sh' = SH ∧ n' = 114 ∧ P r M'
abbrev Co (l : Launch) (y : MethodName) (cy : ByteArray) (mL : Nat) (ret : Option FieldType) (rm : Room) (G : vGG) (As : List AV) (M : Mem) (P : Option AV → Mem → Prop) : Prop := Ct l y cy mL ret rm G As SH 114 M (vP P)
/-- it answers v and leaves the memory M1 -/
abbrev Cv (l : Launch) (y : MethodName) (cy : ByteArray) (mL : Nat) (ret : Option FieldType) (rm : Room) (G : vGG) (As : List AV) (M : Mem) (v : Option AV) (M1 : Mem) : Prop := Co l y cy mL ret rm G As M (fun r M' => r = v ∧ M' = M1)
abbrev rmo (f n : Nat) : Room := { frames := f, cells := 0, slots := 0, locals := n }
section VO
variable {x : vXX} {Q : State → Prop} {G : vGG} {cc : ByteArray} {own : String} {pc : Nat} {ls : List (Option AV)} {st : List AV} {M M1 : Mem} {f lo : Nat}
variable {y : MethodName} {cy : ByteArray} {mL idx : Nat} {ret : Option FieldType} {P : Option AV → Mem → Prop} {v : AV}
abbrev vO (x : vXX) (Q : State → Prop) (G : vGG) (cc : ByteArray) (own : String) (pc : Nat) (ls : List (Option AV)) (st : List AV) (M : Mem) : Prop := V x Q G cc own SH 114 0 0 pc ls st M
def vRo (f lo mL : Nat) (R : Room) : Prop := f + 1 ≤ R.frames ∧ 8 + (mL + 11) + lo ≤ R.locals
theorem vRo.rm {R : Room} (h : vRo f lo mL R) : vRm (rmo f lo) R mL 0 0 := ⟨h, Nat.zero_le _, Nat.zero_le _⟩
theorem oSv0 (hc : Cv (xl x) y cy mL ret (rmo f lo) G [] M (some v) M1) (k0 : vK0 y cy mL ret 0) (ki : Cond.static y ∈ vGT) (kl : Cond.methodLink own idx y ∈ vGT) (hR1 : vRo f lo mL (xR x)) (hd : decode cc pc = .ok (.invokestatic idx, 3)) (hst : (st.map vcat).sum ≤ 8) (kk : vO x Q G cc own (pc + 3) ls (v :: st) M1) : vO x Q G cc own pc ls (st) M :=
  v_callS0 hc k0 kl ki hR1.rm hst hd (fun r sh' n' M' h => by obtain ⟨rfl, rfl, rfl, rfl⟩ := h; exact kk)
theorem oSn0 (hc : Cv (xl x) y cy mL ret (rmo f lo) G [] M none M1) (k0 : vK0 y cy mL ret 0) (ki : Cond.static y ∈ vGT) (kl : Cond.methodLink own idx y ∈ vGT) (hR1 : vRo f lo mL (xR x)) (hd : decode cc pc = .ok (.invokestatic idx, 3)) (hst : (st.map vcat).sum ≤ 8) (kk : vO x Q G cc own (pc + 3) ls st M1) : vO x Q G cc own pc ls (st) M :=
  v_callS0 hc k0 kl ki hR1.rm hst hd (fun r sh' n' M' h => by obtain ⟨rfl, rfl, rfl, rfl⟩ := h; exact kk)
theorem oSq0 {Pm : Mem → Prop} (hc : Co (xl x) y cy mL ret (rmo f lo) G [] M (fun r M' => r = some v ∧ Pm M')) (k0 : vK0 y cy mL ret 0) (ki : Cond.static y ∈ vGT) (kl : Cond.methodLink own idx y ∈ vGT) (hR1 : vRo f lo mL (xR x)) (hd : decode cc pc = .ok (.invokestatic idx, 3)) (hst : (st.map vcat).sum ≤ 8) (kk : ∀ M' : Mem, Pm M' → vO x Q G cc own (pc + 3) ls (v :: st) M') : vO x Q G cc own pc ls (st) M :=
  v_callS0 hc k0 kl ki hR1.rm hst hd (fun r sh' n' M' h => by obtain ⟨rfl, rfl, rfl, h⟩ := h; exact kk M' h)
theorem oSm0 {Pm : Mem → Prop} (hc : Co (xl x) y cy mL ret (rmo f lo) G [] M (fun r M' => r = none ∧ Pm M')) (k0 : vK0 y cy mL ret 0) (ki : Cond.static y ∈ vGT) (kl : Cond.methodLink own idx y ∈ vGT) (hR1 : vRo f lo mL (xR x)) (hd : decode cc pc = .ok (.invokestatic idx, 3)) (hst : (st.map vcat).sum ≤ 8) (kk : ∀ M' : Mem, Pm M' → vO x Q G cc own (pc + 3) ls st M') : vO x Q G cc own pc ls (st) M :=
  v_callS0 hc k0 kl ki hR1.rm hst hd (fun r sh' n' M' h => by obtain ⟨rfl, rfl, rfl, h⟩ := h; exact kk M' h)
theorem oSp0 (hc : Co (xl x) y cy mL ret (rmo f lo) G [] M P) (k0 : vK0 y cy mL ret 0) (ki : Cond.static y ∈ vGT) (kl : Cond.methodLink own idx y ∈ vGT) (hR1 : vRo f lo mL (xR x)) (hd : decode cc pc = .ok (.invokestatic idx, 3)) (hst : (st.map vcat).sum ≤ 8) (kk : ∀ (r : Option AV) (M' : Mem), P r M' → vO x Q G cc own (pc + 3) ls (r.toList ++ st) M') : vO x Q G cc own pc ls (st) M :=
  v_callS0 hc k0 kl ki hR1.rm hst hd (fun r sh' n' M' h => by obtain ⟨rfl, rfl, h⟩ := h; exact kk r M' h)
theorem oSNv0 {host : String} (hc : Cv (xl x) y cy mL ret (rmo f lo) G [] M (some v) M1) (k0 : vK0 y cy mL ret 0) (ki : Cond.static y ∈ vGT) (kl : Cond.methodLinkNest own idx y host ∈ vNW) (hR1 : vRo f lo mL (xR x)) (hd : decode cc pc = .ok (.invokestatic idx, 3)) (hst : (st.map vcat).sum ≤ 8) (kk : vO x Q G cc own (pc + 3) ls (v :: st) M1) : vO x Q G cc own pc ls (st) M :=
  v_callSN0 hc k0 kl ki hR1.rm hst hd (fun r sh' n' M' h => by obtain ⟨rfl, rfl, rfl, rfl⟩ := h; exact kk)
theorem oSNn0 {host : String} (hc : Cv (xl x) y cy mL ret (rmo f lo) G [] M none M1) (k0 : vK0 y cy mL ret 0) (ki : Cond.static y ∈ vGT) (kl : Cond.methodLinkNest own idx y host ∈ vNW) (hR1 : vRo f lo mL (xR x)) (hd : decode cc pc = .ok (.invokestatic idx, 3)) (hst : (st.map vcat).sum ≤ 8) (kk : vO x Q G cc own (pc + 3) ls st M1) : vO x Q G cc own pc ls (st) M :=
  v_callSN0 hc k0 kl ki hR1.rm hst hd (fun r sh' n' M' h => by obtain ⟨rfl, rfl, rfl, rfl⟩ := h; exact kk)
theorem oSNq0 {host : String} {Pm : Mem → Prop} (hc : Co (xl x) y cy mL ret (rmo f lo) G [] M (fun r M' => r = some v ∧ Pm M')) (k0 : vK0 y cy mL ret 0) (ki : Cond.static y ∈ vGT) (kl : Cond.methodLinkNest own idx y host ∈ vNW) (hR1 : vRo f lo mL (xR x)) (hd : decode cc pc = .ok (.invokestatic idx, 3)) (hst : (st.map vcat).sum ≤ 8) (kk : ∀ M' : Mem, Pm M' → vO x Q G cc own (pc + 3) ls (v :: st) M') : vO x Q G cc own pc ls (st) M :=
  v_callSN0 hc k0 kl ki hR1.rm hst hd (fun r sh' n' M' h => by obtain ⟨rfl, rfl, rfl, h⟩ := h; exact kk M' h)
theorem oSNm0 {host : String} {Pm : Mem → Prop} (hc : Co (xl x) y cy mL ret (rmo f lo) G [] M (fun r M' => r = none ∧ Pm M')) (k0 : vK0 y cy mL ret 0) (ki : Cond.static y ∈ vGT) (kl : Cond.methodLinkNest own idx y host ∈ vNW) (hR1 : vRo f lo mL (xR x)) (hd : decode cc pc = .ok (.invokestatic idx, 3)) (hst : (st.map vcat).sum ≤ 8) (kk : ∀ M' : Mem, Pm M' → vO x Q G cc own (pc + 3) ls st M') : vO x Q G cc own pc ls (st) M :=
  v_callSN0 hc k0 kl ki hR1.rm hst hd (fun r sh' n' M' h => by obtain ⟨rfl, rfl, rfl, h⟩ := h; exact kk M' h)
theorem oSNp0 {host : String} (hc : Co (xl x) y cy mL ret (rmo f lo) G [] M P) (k0 : vK0 y cy mL ret 0) (ki : Cond.static y ∈ vGT) (kl : Cond.methodLinkNest own idx y host ∈ vNW) (hR1 : vRo f lo mL (xR x)) (hd : decode cc pc = .ok (.invokestatic idx, 3)) (hst : (st.map vcat).sum ≤ 8) (kk : ∀ (r : Option AV) (M' : Mem), P r M' → vO x Q G cc own (pc + 3) ls (r.toList ++ st) M') : vO x Q G cc own pc ls (st) M :=
  v_callSN0 hc k0 kl ki hR1.rm hst hd (fun r sh' n' M' h => by obtain ⟨rfl, rfl, h⟩ := h; exact kk r M' h)
theorem oVv0 {b : Nat} (ci : Nat) (hc : Cv (xl x) y cy mL ret (rmo f lo) G [aR (some b)] M (some v) M1) (k0 : vK0 y cy mL ret 0) (ki : Cond.instanceMethod y ∈ vGT ∧ Cond.selects y.cls y y ∈ vGT) (kl : Cond.methodLink own idx y ∈ vGT) (hs : SH b = some (.inl ci)) (hcl : (vwCl[ci]?).map (fun r => r.1) = some y.cls) (hR1 : vRo f lo mL (xR x)) (hd : decode cc pc = .ok (.invokevirtual idx, 3)) (hst : (st.map vcat).sum ≤ 8) (kk : vO x Q G cc own (pc + 3) ls (v :: st) M1) : vO x Q G cc own pc ls (aR (some b) :: st) M :=
  v_callV0 ci hc k0 kl ki.1 ki.2 hs hcl hR1.rm hst hd (fun r sh' n' M' h => by obtain ⟨rfl, rfl, rfl, rfl⟩ := h; exact kk)
theorem oVn0 {b : Nat} (ci : Nat) (hc : Cv (xl x) y cy mL ret (rmo f lo) G [aR (some b)] M none M1) (k0 : vK0 y cy mL ret 0) (ki : Cond.instanceMethod y ∈ vGT ∧ Cond.selects y.cls y y ∈ vGT) (kl : Cond.methodLink own idx y ∈ vGT) (hs : SH b = some (.inl ci)) (hcl : (vwCl[ci]?).map (fun r => r.1) = some y.cls) (hR1 : vRo f lo mL (xR x)) (hd : decode cc pc = .ok (.invokevirtual idx, 3)) (hst : (st.map vcat).sum ≤ 8) (kk : vO x Q G cc own (pc + 3) ls st M1) : vO x Q G cc own pc ls (aR (some b) :: st) M :=
  v_callV0 ci hc k0 kl ki.1 ki.2 hs hcl hR1.rm hst hd (fun r sh' n' M' h => by obtain ⟨rfl, rfl, rfl, rfl⟩ := h; exact kk)
theorem oVq0 {b : Nat} (ci : Nat) {Pm : Mem → Prop} (hc : Co (xl x) y cy mL ret (rmo f lo) G [aR (some b)] M (fun r M' => r = some v ∧ Pm M')) (k0 : vK0 y cy mL ret 0) (ki : Cond.instanceMethod y ∈ vGT ∧ Cond.selects y.cls y y ∈ vGT) (kl : Cond.methodLink own idx y ∈ vGT) (hs : SH b = some (.inl ci)) (hcl : (vwCl[ci]?).map (fun r => r.1) = some y.cls) (hR1 : vRo f lo mL (xR x)) (hd : decode cc pc = .ok (.invokevirtual idx, 3)) (hst : (st.map vcat).sum ≤ 8) (kk : ∀ M' : Mem, Pm M' → vO x Q G cc own (pc + 3) ls (v :: st) M') : vO x Q G cc own pc ls (aR (some b) :: st) M :=
  v_callV0 ci hc k0 kl ki.1 ki.2 hs hcl hR1.rm hst hd (fun r sh' n' M' h => by obtain ⟨rfl, rfl, rfl, h⟩ := h; exact kk M' h)
theorem oVm0 {b : Nat} (ci : Nat) {Pm : Mem → Prop} (hc : Co (xl x) y cy mL ret (rmo f lo) G [aR (some b)] M (fun r M' => r = none ∧ Pm M')) (k0 : vK0 y cy mL ret 0) (ki : Cond.instanceMethod y ∈ vGT ∧ Cond.selects y.cls y y ∈ vGT) (kl : Cond.methodLink own idx y ∈ vGT) (hs : SH b = some (.inl ci)) (hcl : (vwCl[ci]?).map (fun r => r.1) = some y.cls) (hR1 : vRo f lo mL (xR x)) (hd : decode cc pc = .ok (.invokevirtual idx, 3)) (hst : (st.map vcat).sum ≤ 8) (kk : ∀ M' : Mem, Pm M' → vO x Q G cc own (pc + 3) ls st M') : vO x Q G cc own pc ls (aR (some b) :: st) M :=
  v_callV0 ci hc k0 kl ki.1 ki.2 hs hcl hR1.rm hst hd (fun r sh' n' M' h => by obtain ⟨rfl, rfl, rfl, h⟩ := h; exact kk M' h)
theorem oVp0 {b : Nat} (ci : Nat) (hc : Co (xl x) y cy mL ret (rmo f lo) G [aR (some b)] M P) (k0 : vK0 y cy mL ret 0) (ki : Cond.instanceMethod y ∈ vGT ∧ Cond.selects y.cls y y ∈ vGT) (kl : Cond.methodLink own idx y ∈ vGT) (hs : SH b = some (.inl ci)) (hcl : (vwCl[ci]?).map (fun r => r.1) = some y.cls) (hR1 : vRo f lo mL (xR x)) (hd : decode cc pc = .ok (.invokevirtual idx, 3)) (hst : (st.map vcat).sum ≤ 8) (kk : ∀ (r : Option AV) (M' : Mem), P r M' → vO x Q G cc own (pc + 3) ls (r.toList ++ st) M') : vO x Q G cc own pc ls (aR (some b) :: st) M :=
  v_callV0 ci hc k0 kl ki.1 ki.2 hs hcl hR1.rm hst hd (fun r sh' n' M' h => by obtain ⟨rfl, rfl, h⟩ := h; exact kk r M' h)
theorem oSv1 {a0 : AV} (hc : Cv (xl x) y cy mL ret (rmo f lo) G [a0] M (some v) M1) (k0 : vK0 y cy mL ret 1) (ki : Cond.static y ∈ vGT) (kl : Cond.methodLink own idx y ∈ vGT) (hR1 : vRo f lo mL (xR x)) (hd : decode cc pc = .ok (.invokestatic idx, 3)) (hst : (st.map vcat).sum ≤ 8) (kk : vO x Q G cc own (pc + 3) ls (v :: st) M1) : vO x Q G cc own pc ls (a0 :: st) M :=
  v_callS1 hc k0 kl ki hR1.rm hst hd (fun r sh' n' M' h => by obtain ⟨rfl, rfl, rfl, rfl⟩ := h; exact kk)
theorem oSn1 {a0 : AV} (hc : Cv (xl x) y cy mL ret (rmo f lo) G [a0] M none M1) (k0 : vK0 y cy mL ret 1) (ki : Cond.static y ∈ vGT) (kl : Cond.methodLink own idx y ∈ vGT) (hR1 : vRo f lo mL (xR x)) (hd : decode cc pc = .ok (.invokestatic idx, 3)) (hst : (st.map vcat).sum ≤ 8) (kk : vO x Q G cc own (pc + 3) ls st M1) : vO x Q G cc own pc ls (a0 :: st) M :=
  v_callS1 hc k0 kl ki hR1.rm hst hd (fun r sh' n' M' h => by obtain ⟨rfl, rfl, rfl, rfl⟩ := h; exact kk)
theorem oSq1 {a0 : AV} {Pm : Mem → Prop} (hc : Co (xl x) y cy mL ret (rmo f lo) G [a0] M (fun r M' => r = some v ∧ Pm M')) (k0 : vK0 y cy mL ret 1) (ki : Cond.static y ∈ vGT) (kl : Cond.methodLink own idx y ∈ vGT) (hR1 : vRo f lo mL (xR x)) (hd : decode cc pc = .ok (.invokestatic idx, 3)) (hst : (st.map vcat).sum ≤ 8) (kk : ∀ M' : Mem, Pm M' → vO x Q G cc own (pc + 3) ls (v :: st) M') : vO x Q G cc own pc ls (a0 :: st) M :=
  v_callS1 hc k0 kl ki hR1.rm hst hd (fun r sh' n' M' h => by obtain ⟨rfl, rfl, rfl, h⟩ := h; exact kk M' h)
theorem oSm1 {a0 : AV} {Pm : Mem → Prop} (hc : Co (xl x) y cy mL ret (rmo f lo) G [a0] M (fun r M' => r = none ∧ Pm M')) (k0 : vK0 y cy mL ret 1) (ki : Cond.static y ∈ vGT) (kl : Cond.methodLink own idx y ∈ vGT) (hR1 : vRo f lo mL (xR x)) (hd : decode cc pc = .ok (.invokestatic idx, 3)) (hst : (st.map vcat).sum ≤ 8) (kk : ∀ M' : Mem, Pm M' → vO x Q G cc own (pc + 3) ls st M') : vO x Q G cc own pc ls (a0 :: st) M :=
  v_callS1 hc k0 kl ki hR1.rm hst hd (fun r sh' n' M' h => by obtain ⟨rfl, rfl, rfl, h⟩ := h; exact kk M' h)
theorem oSp1 {a0 : AV} (hc : Co (xl x) y cy mL ret (rmo f lo) G [a0] M P) (k0 : vK0 y cy mL ret 1) (ki : Cond.static y ∈ vGT) (kl : Cond.methodLink own idx y ∈ vGT) (hR1 : vRo f lo mL (xR x)) (hd : decode cc pc = .ok (.invokestatic idx, 3)) (hst : (st.map vcat).sum ≤ 8) (kk : ∀ (r : Option AV) (M' : Mem), P r M' → vO x Q G cc own (pc + 3) ls (r.toList ++ st) M') : vO x Q G cc own pc ls (a0 :: st) M :=
  v_callS1 hc k0 kl ki hR1.rm hst hd (fun r sh' n' M' h => by obtain ⟨rfl, rfl, h⟩ := h; exact kk r M' h)
theorem oSNv1 {a0 : AV} {host : String} (hc : Cv (xl x) y cy mL ret (rmo f lo) G [a0] M (some v) M1) (k0 : vK0 y cy mL ret 1) (ki : Cond.static y ∈ vGT) (kl : Cond.methodLinkNest own idx y host ∈ vNW) (hR1 : vRo f lo mL (xR x)) (hd : decode cc pc = .ok (.invokestatic idx, 3)) (hst : (st.map vcat).sum ≤ 8) (kk : vO x Q G cc own (pc + 3) ls (v :: st) M1) : vO x Q G cc own pc ls (a0 :: st) M :=
  v_callSN1 hc k0 kl ki hR1.rm hst hd (fun r sh' n' M' h => by obtain ⟨rfl, rfl, rfl, rfl⟩ := h; exact kk)
theorem oSNn1 {a0 : AV} {host : String} (hc : Cv (xl x) y cy mL ret (rmo f lo) G [a0] M none M1) (k0 : vK0 y cy mL ret 1) (ki : Cond.static y ∈ vGT) (kl : Cond.methodLinkNest own idx y host ∈ vNW) (hR1 : vRo f lo mL (xR x)) (hd : decode cc pc = .ok (.invokestatic idx, 3)) (hst : (st.map vcat).sum ≤ 8) (kk : vO x Q G cc own (pc + 3) ls st M1) : vO x Q G cc own pc ls (a0 :: st) M :=
  v_callSN1 hc k0 kl ki hR1.rm hst hd (fun r sh' n' M' h => by obtain ⟨rfl, rfl, rfl, rfl⟩ := h; exact kk)
theorem oSNq1 {a0 : AV} {host : String} {Pm : Mem → Prop} (hc : Co (xl x) y cy mL ret (rmo f lo) G [a0] M (fun r M' => r = some v ∧ Pm M')) (k0 : vK0 y cy mL ret 1) (ki : Cond.static y ∈ vGT) (kl : Cond.methodLinkNest own idx y host ∈ vNW) (hR1 : vRo f lo mL (xR x)) (hd : decode cc pc = .ok (.invokestatic idx, 3)) (hst : (st.map vcat).sum ≤ 8) (kk : ∀ M' : Mem, Pm M' → vO x Q G cc own (pc + 3) ls (v :: st) M') : vO x Q G cc own pc ls (a0 :: st) M :=
  v_callSN1 hc k0 kl ki hR1.rm hst hd (fun r sh' n' M' h => by obtain ⟨rfl, rfl, rfl, h⟩ := h; exact kk M' h)
theorem oSNm1 {a0 : AV} {host : String} {Pm : Mem → Prop} (hc : Co (xl x) y cy mL ret (rmo f lo) G [a0] M (fun r M' => r = none ∧ Pm M')) (k0 : vK0 y cy mL ret 1) (ki : Cond.static y ∈ vGT) (kl : Cond.methodLinkNest own idx y host ∈ vNW) (hR1 : vRo f lo mL (xR x)) (hd : decode cc pc = .ok (.invokestatic idx, 3)) (hst : (st.map vcat).sum ≤ 8) (kk : ∀ M' : Mem, Pm M' → vO x Q G cc own (pc + 3) ls st M') : vO x Q G cc own pc ls (a0 :: st) M :=
  v_callSN1 hc k0 kl ki hR1.rm hst hd (fun r sh' n' M' h => by obtain ⟨rfl, rfl, rfl, h⟩ := h; exact kk M' h)
theorem oSNp1 {a0 : AV} {host : String} (hc : Co (xl x) y cy mL ret (rmo f lo) G [a0] M P) (k0 : vK0 y cy mL ret 1) (ki : Cond.static y ∈ vGT) (kl : Cond.methodLinkNest own idx y host ∈ vNW) (hR1 : vRo f lo mL (xR x)) (hd : decode cc pc = .ok (.invokestatic idx, 3)) (hst : (st.map vcat).sum ≤ 8) (kk : ∀ (r : Option AV) (M' : Mem), P r M' → vO x Q G cc own (pc + 3) ls (r.toList ++ st) M') : vO x Q G cc own pc ls (a0 :: st) M :=
  v_callSN1 hc k0 kl ki hR1.rm hst hd (fun r sh' n' M' h => by obtain ⟨rfl, rfl, h⟩ := h; exact kk r M' h)
theorem oVv1 {a0 : AV} {b : Nat} (ci : Nat) (hc : Cv (xl x) y cy mL ret (rmo f lo) G [aR (some b), a0] M (some v) M1) (k0 : vK0 y cy mL ret 1) (ki : Cond.instanceMethod y ∈ vGT ∧ Cond.selects y.cls y y ∈ vGT) (kl : Cond.methodLink own idx y ∈ vGT) (hs : SH b = some (.inl ci)) (hcl : (vwCl[ci]?).map (fun r => r.1) = some y.cls) (hR1 : vRo f lo mL (xR x)) (hd : decode cc pc = .ok (.invokevirtual idx, 3)) (hst : (st.map vcat).sum ≤ 8) (kk : vO x Q G cc own (pc + 3) ls (v :: st) M1) : vO x Q G cc own pc ls (a0 :: aR (some b) :: st) M :=
  v_callV1 ci hc k0 kl ki.1 ki.2 hs hcl hR1.rm hst hd (fun r sh' n' M' h => by obtain ⟨rfl, rfl, rfl, rfl⟩ := h; exact kk)
theorem oVn1 {a0 : AV} {b : Nat} (ci : Nat) (hc : Cv (xl x) y cy mL ret (rmo f lo) G [aR (some b), a0] M none M1) (k0 : vK0 y cy mL ret 1) (ki : Cond.instanceMethod y ∈ vGT ∧ Cond.selects y.cls y y ∈ vGT) (kl : Cond.methodLink own idx y ∈ vGT) (hs : SH b = some (.inl ci)) (hcl : (vwCl[ci]?).map (fun r => r.1) = some y.cls) (hR1 : vRo f lo mL (xR x)) (hd : decode cc pc = .ok (.invokevirtual idx, 3)) (hst : (st.map vcat).sum ≤ 8) (kk : vO x Q G cc own (pc + 3) ls st M1) : vO x Q G cc own pc ls (a0 :: aR (some b) :: st) M :=
  v_callV1 ci hc k0 kl ki.1 ki.2 hs hcl hR1.rm hst hd (fun r sh' n' M' h => by obtain ⟨rfl, rfl, rfl, rfl⟩ := h; exact kk)
theorem oVq1 {a0 : AV} {b : Nat} (ci : Nat) {Pm : Mem → Prop} (hc : Co (xl x) y cy mL ret (rmo f lo) G [aR (some b), a0] M (fun r M' => r = some v ∧ Pm M')) (k0 : vK0 y cy mL ret 1) (ki : Cond.instanceMethod y ∈ vGT ∧ Cond.selects y.cls y y ∈ vGT) (kl : Cond.methodLink own idx y ∈ vGT) (hs : SH b = some (.inl ci)) (hcl : (vwCl[ci]?).map (fun r => r.1) = some y.cls) (hR1 : vRo f lo mL (xR x)) (hd : decode cc pc = .ok (.invokevirtual idx, 3)) (hst : (st.map vcat).sum ≤ 8) (kk : ∀ M' : Mem, Pm M' → vO x Q G cc own (pc + 3) ls (v :: st) M') : vO x Q G cc own pc ls (a0 :: aR (some b) :: st) M :=
  v_callV1 ci hc k0 kl ki.1 ki.2 hs hcl hR1.rm hst hd (fun r sh' n' M' h => by obtain ⟨rfl, rfl, rfl, h⟩ := h; exact kk M' h)
theorem oVm1 {a0 : AV} {b : Nat} (ci : Nat) {Pm : Mem → Prop} (hc : Co (xl x) y cy mL ret (rmo f lo) G [aR (some b), a0] M (fun r M' => r = none ∧ Pm M')) (k0 : vK0 y cy mL ret 1) (ki : Cond.instanceMethod y ∈ vGT ∧ Cond.selects y.cls y y ∈ vGT) (kl : Cond.methodLink own idx y ∈ vGT) (hs : SH b = some (.inl ci)) (hcl : (vwCl[ci]?).map (fun r => r.1) = some y.cls) (hR1 : vRo f lo mL (xR x)) (hd : decode cc pc = .ok (.invokevirtual idx, 3)) (hst : (st.map vcat).sum ≤ 8) (kk : ∀ M' : Mem, Pm M' → vO x Q G cc own (pc + 3) ls st M') : vO x Q G cc own pc ls (a0 :: aR (some b) :: st) M :=
  v_callV1 ci hc k0 kl ki.1 ki.2 hs hcl hR1.rm hst hd (fun r sh' n' M' h => by obtain ⟨rfl, rfl, rfl, h⟩ := h; exact kk M' h)
theorem oVp1 {a0 : AV} {b : Nat} (ci : Nat) (hc : Co (xl x) y cy mL ret (rmo f lo) G [aR (some b), a0] M P) (k0 : vK0 y cy mL ret 1) (ki : Cond.instanceMethod y ∈ vGT ∧ Cond.selects y.cls y y ∈ vGT) (kl : Cond.methodLink own idx y ∈ vGT) (hs : SH b = some (.inl ci)) (hcl : (vwCl[ci]?).map (fun r => r.1) = some y.cls) (hR1 : vRo f lo mL (xR x)) (hd : decode cc pc = .ok (.invokevirtual idx, 3)) (hst : (st.map vcat).sum ≤ 8) (kk : ∀ (r : Option AV) (M' : Mem), P r M' → vO x Q G cc own (pc + 3) ls (r.toList ++ st) M') : vO x Q G cc own pc ls (a0 :: aR (some b) :: st) M :=
  v_callV1 ci hc k0 kl ki.1 ki.2 hs hcl hR1.rm hst hd (fun r sh' n' M' h => by obtain ⟨rfl, rfl, h⟩ := h; exact kk r M' h)
theorem oSv2 {a0 a1 : AV} (hc : Cv (xl x) y cy mL ret (rmo f lo) G [a0, a1] M (some v) M1) (k0 : vK0 y cy mL ret 2) (ki : Cond.static y ∈ vGT) (kl : Cond.methodLink own idx y ∈ vGT) (hR1 : vRo f lo mL (xR x)) (hd : decode cc pc = .ok (.invokestatic idx, 3)) (hst : (st.map vcat).sum ≤ 8) (kk : vO x Q G cc own (pc + 3) ls (v :: st) M1) : vO x Q G cc own pc ls (a1 :: a0 :: st) M :=
  v_callS2 hc k0 kl ki hR1.rm hst hd (fun r sh' n' M' h => by obtain ⟨rfl, rfl, rfl, rfl⟩ := h; exact kk)
theorem oSn2 {a0 a1 : AV} (hc : Cv (xl x) y cy mL ret (rmo f lo) G [a0, a1] M none M1) (k0 : vK0 y cy mL ret 2) (ki : Cond.static y ∈ vGT) (kl : Cond.methodLink own idx y ∈ vGT) (hR1 : vRo f lo mL (xR x)) (hd : decode cc pc = .ok (.invokestatic idx, 3)) (hst : (st.map vcat).sum ≤ 8) (kk : vO x Q G cc own (pc + 3) ls st M1) : vO x Q G cc own pc ls (a1 :: a0 :: st) M :=
  v_callS2 hc k0 kl ki hR1.rm hst hd (fun r sh' n' M' h => by obtain ⟨rfl, rfl, rfl, rfl⟩ := h; exact kk)
theorem oSq2 {a0 a1 : AV} {Pm : Mem → Prop} (hc : Co (xl x) y cy mL ret (rmo f lo) G [a0, a1] M (fun r M' => r = some v ∧ Pm M')) (k0 : vK0 y cy mL ret 2) (ki : Cond.static y ∈ vGT) (kl : Cond.methodLink own idx y ∈ vGT) (hR1 : vRo f lo mL (xR x)) (hd : decode cc pc = .ok (.invokestatic idx, 3)) (hst : (st.map vcat).sum ≤ 8) (kk : ∀ M' : Mem, Pm M' → vO x Q G cc own (pc + 3) ls (v :: st) M') : vO x Q G cc own pc ls (a1 :: a0 :: st) M :=
  v_callS2 hc k0 kl ki hR1.rm hst hd (fun r sh' n' M' h => by obtain ⟨rfl, rfl, rfl, h⟩ := h; exact kk M' h)
theorem oSm2 {a0 a1 : AV} {Pm : Mem → Prop} (hc : Co (xl x) y cy mL ret (rmo f lo) G [a0, a1] M (fun r M' => r = none ∧ Pm M')) (k0 : vK0 y cy mL ret 2) (ki : Cond.static y ∈ vGT) (kl : Cond.methodLink own idx y ∈ vGT) (hR1 : vRo f lo mL (xR x)) (hd : decode cc pc = .ok (.invokestatic idx, 3)) (hst : (st.map vcat).sum ≤ 8) (kk : ∀ M' : Mem, Pm M' → vO x Q G cc own (pc + 3) ls st M') : vO x Q G cc own pc ls (a1 :: a0 :: st) M :=
  v_callS2 hc k0 kl ki hR1.rm hst hd (fun r sh' n' M' h => by obtain ⟨rfl, rfl, rfl, h⟩ := h; exact kk M' h)
theorem oSp2 {a0 a1 : AV} (hc : Co (xl x) y cy mL ret (rmo f lo) G [a0, a1] M P) (k0 : vK0 y cy mL ret 2) (ki : Cond.static y ∈ vGT) (kl : Cond.methodLink own idx y ∈ vGT) (hR1 : vRo f lo mL (xR x)) (hd : decode cc pc = .ok (.invokestatic idx, 3)) (hst : (st.map vcat).sum ≤ 8) (kk : ∀ (r : Option AV) (M' : Mem), P r M' → vO x Q G cc own (pc + 3) ls (r.toList ++ st) M') : vO x Q G cc own pc ls (a1 :: a0 :: st) M :=
  v_callS2 hc k0 kl ki hR1.rm hst hd (fun r sh' n' M' h => by obtain ⟨rfl, rfl, h⟩ := h; exact kk r M' h)
theorem oSNv2 {a0 a1 : AV} {host : String} (hc : Cv (xl x) y cy mL ret (rmo f lo) G [a0, a1] M (some v) M1) (k0 : vK0 y cy mL ret 2) (ki : Cond.static y ∈ vGT) (kl : Cond.methodLinkNest own idx y host ∈ vNW) (hR1 : vRo f lo mL (xR x)) (hd : decode cc pc = .ok (.invokestatic idx, 3)) (hst : (st.map vcat).sum ≤ 8) (kk : vO x Q G cc own (pc + 3) ls (v :: st) M1) : vO x Q G cc own pc ls (a1 :: a0 :: st) M :=
  v_callSN2 hc k0 kl ki hR1.rm hst hd (fun r sh' n' M' h => by obtain ⟨rfl, rfl, rfl, rfl⟩ := h; exact kk)
theorem oSNn2 {a0 a1 : AV} {host : String} (hc : Cv (xl x) y cy mL ret (rmo f lo) G [a0, a1] M none M1) (k0 : vK0 y cy mL ret 2) (ki : Cond.static y ∈ vGT) (kl : Cond.methodLinkNest own idx y host ∈ vNW) (hR1 : vRo f lo mL (xR x)) (hd : decode cc pc = .ok (.invokestatic idx, 3)) (hst : (st.map vcat).sum ≤ 8) (kk : vO x Q G cc own (pc + 3) ls st M1) : vO x Q G cc own pc ls (a1 :: a0 :: st) M :=
  v_callSN2 hc k0 kl ki hR1.rm hst hd (fun r sh' n' M' h => by obtain ⟨rfl, rfl, rfl, rfl⟩ := h; exact kk)
theorem oSNq2 {a0 a1 : AV} {host : String} {Pm : Mem → Prop} (hc : Co (xl x) y cy mL ret (rmo f lo) G [a0, a1] M (fun r M' => r = some v ∧ Pm M')) (k0 : vK0 y cy mL ret 2) (ki : Cond.static y ∈ vGT) (kl : Cond.methodLinkNest own idx y host ∈ vNW) (hR1 : vRo f lo mL (xR x)) (hd : decode cc pc = .ok (.invokestatic idx, 3)) (hst : (st.map vcat).sum ≤ 8) (kk : ∀ M' : Mem, Pm M' → vO x Q G cc own (pc + 3) ls (v :: st) M') : vO x Q G cc own pc ls (a1 :: a0 :: st) M :=
  v_callSN2 hc k0 kl ki hR1.rm hst hd (fun r sh' n' M' h => by obtain ⟨rfl, rfl, rfl, h⟩ := h; exact kk M' h)
theorem oSNm2 {a0 a1 : AV} {host : String} {Pm : Mem → Prop} (hc : Co (xl x) y cy mL ret (rmo f lo) G [a0, a1] M (fun r M' => r = none ∧ Pm M')) (k0 : vK0 y cy mL ret 2) (ki : Cond.static y ∈ vGT) (kl : Cond.methodLinkNest own idx y host ∈ vNW) (hR1 : vRo f lo mL (xR x)) (hd : decode cc pc = .ok (.invokestatic idx, 3)) (hst : (st.map vcat).sum ≤ 8) (kk : ∀ M' : Mem, Pm M' → vO x Q G cc own (pc + 3) ls st M') : vO x Q G cc own pc ls (a1 :: a0 :: st) M :=
  v_callSN2 hc k0 kl ki hR1.rm hst hd (fun r sh' n' M' h => by obtain ⟨rfl, rfl, rfl, h⟩ := h; exact kk M' h)
theorem oSNp2 {a0 a1 : AV} {host : String} (hc : Co (xl x) y cy mL ret (rmo f lo) G [a0, a1] M P) (k0 : vK0 y cy mL ret 2) (ki : Cond.static y ∈ vGT) (kl : Cond.methodLinkNest own idx y host ∈ vNW) (hR1 : vRo f lo mL (xR x)) (hd : decode cc pc = .ok (.invokestatic idx, 3)) (hst : (st.map vcat).sum ≤ 8) (kk : ∀ (r : Option AV) (M' : Mem), P r M' → vO x Q G cc own (pc + 3) ls (r.toList ++ st) M') : vO x Q G cc own pc ls (a1 :: a0 :: st) M :=
  v_callSN2 hc k0 kl ki hR1.rm hst hd (fun r sh' n' M' h => by obtain ⟨rfl, rfl, h⟩ := h; exact kk r M' h)
theorem oVv2 {a0 a1 : AV} {b : Nat} (ci : Nat) (hc : Cv (xl x) y cy mL ret (rmo f lo) G [aR (some b), a0, a1] M (some v) M1) (k0 : vK0 y cy mL ret 2) (ki : Cond.instanceMethod y ∈ vGT ∧ Cond.selects y.cls y y ∈ vGT) (kl : Cond.methodLink own idx y ∈ vGT) (hs : SH b = some (.inl ci)) (hcl : (vwCl[ci]?).map (fun r => r.1) = some y.cls) (hR1 : vRo f lo mL (xR x)) (hd : decode cc pc = .ok (.invokevirtual idx, 3)) (hst : (st.map vcat).sum ≤ 8) (kk : vO x Q G cc own (pc + 3) ls (v :: st) M1) : vO x Q G cc own pc ls (a1 :: a0 :: aR (some b) :: st) M :=
  v_callV2 ci hc k0 kl ki.1 ki.2 hs hcl hR1.rm hst hd (fun r sh' n' M' h => by obtain ⟨rfl, rfl, rfl, rfl⟩ := h; exact kk)
theorem oVn2 {a0 a1 : AV} {b : Nat} (ci : Nat) (hc : Cv (xl x) y cy mL ret (rmo f lo) G [aR (some b), a0, a1] M none M1) (k0 : vK0 y cy mL ret 2) (ki : Cond.instanceMethod y ∈ vGT ∧ Cond.selects y.cls y y ∈ vGT) (kl : Cond.methodLink own idx y ∈ vGT) (hs : SH b = some (.inl ci)) (hcl : (vwCl[ci]?).map (fun r => r.1) = some y.cls) (hR1 : vRo f lo mL (xR x)) (hd : decode cc pc = .ok (.invokevirtual idx, 3)) (hst : (st.map vcat).sum ≤ 8) (kk : vO x Q G cc own (pc + 3) ls st M1) : vO x Q G cc own pc ls (a1 :: a0 :: aR (some b) :: st) M :=
  v_callV2 ci hc k0 kl ki.1 ki.2 hs hcl hR1.rm hst hd (fun r sh' n' M' h => by obtain ⟨rfl, rfl, rfl, rfl⟩ := h; exact kk)
theorem oVq2 {a0 a1 : AV} {b : Nat} (ci : Nat) {Pm : Mem → Prop} (hc : Co (xl x) y cy mL ret (rmo f lo) G [aR (some b), a0, a1] M (fun r M' => r = some v ∧ Pm M')) (k0 : vK0 y cy mL ret 2) (ki : Cond.instanceMethod y ∈ vGT ∧ Cond.selects y.cls y y ∈ vGT) (kl : Cond.methodLink own idx y ∈ vGT) (hs : SH b = some (.inl ci)) (hcl : (vwCl[ci]?).map (fun r => r.1) = some y.cls) (hR1 : vRo f lo mL (xR x)) (hd : decode cc pc = .ok (.invokevirtual idx, 3)) (hst : (st.map vcat).sum ≤ 8) (kk : ∀ M' : Mem, Pm M' → vO x Q G cc own (pc + 3) ls (v :: st) M') : vO x Q G cc own pc ls (a1 :: a0 :: aR (some b) :: st) M :=
  v_callV2 ci hc k0 kl ki.1 ki.2 hs hcl hR1.rm hst hd (fun r sh' n' M' h => by obtain ⟨rfl, rfl, rfl, h⟩ := h; exact kk M' h)
theorem oVm2 {a0 a1 : AV} {b : Nat} (ci : Nat) {Pm : Mem → Prop} (hc : Co (xl x) y cy mL ret (rmo f lo) G [aR (some b), a0, a1] M (fun r M' => r = none ∧ Pm M')) (k0 : vK0 y cy mL ret 2) (ki : Cond.instanceMethod y ∈ vGT ∧ Cond.selects y.cls y y ∈ vGT) (kl : Cond.methodLink own idx y ∈ vGT) (hs : SH b = some (.inl ci)) (hcl : (vwCl[ci]?).map (fun r => r.1) = some y.cls) (hR1 : vRo f lo mL (xR x)) (hd : decode cc pc = .ok (.invokevirtual idx, 3)) (hst : (st.map vcat).sum ≤ 8) (kk : ∀ M' : Mem, Pm M' → vO x Q G cc own (pc + 3) ls st M') : vO x Q G cc own pc ls (a1 :: a0 :: aR (some b) :: st) M :=
  v_callV2 ci hc k0 kl ki.1 ki.2 hs hcl hR1.rm hst hd (fun r sh' n' M' h => by obtain ⟨rfl, rfl, rfl, h⟩ := h; exact kk M' h)
theorem oVp2 {a0 a1 : AV} {b : Nat} (ci : Nat) (hc : Co (xl x) y cy mL ret (rmo f lo) G [aR (some b), a0, a1] M P) (k0 : vK0 y cy mL ret 2) (ki : Cond.instanceMethod y ∈ vGT ∧ Cond.selects y.cls y y ∈ vGT) (kl : Cond.methodLink own idx y ∈ vGT) (hs : SH b = some (.inl ci)) (hcl : (vwCl[ci]?).map (fun r => r.1) = some y.cls) (hR1 : vRo f lo mL (xR x)) (hd : decode cc pc = .ok (.invokevirtual idx, 3)) (hst : (st.map vcat).sum ≤ 8) (kk : ∀ (r : Option AV) (M' : Mem), P r M' → vO x Q G cc own (pc + 3) ls (r.toList ++ st) M') : vO x Q G cc own pc ls (a1 :: a0 :: aR (some b) :: st) M :=
  v_callV2 ci hc k0 kl ki.1 ki.2 hs hcl hR1.rm hst hd (fun r sh' n' M' h => by obtain ⟨rfl, rfl, h⟩ := h; exact kk r M' h)
theorem oSv3 {a0 a1 a2 : AV} (hc : Cv (xl x) y cy mL ret (rmo f lo) G [a0, a1, a2] M (some v) M1) (k0 : vK0 y cy mL ret 3) (ki : Cond.static y ∈ vGT) (kl : Cond.methodLink own idx y ∈ vGT) (hR1 : vRo f lo mL (xR x)) (hd : decode cc pc = .ok (.invokestatic idx, 3)) (hst : (st.map vcat).sum ≤ 8) (kk : vO x Q G cc own (pc + 3) ls (v :: st) M1) : vO x Q G cc own pc ls (a2 :: a1 :: a0 :: st) M :=
  v_callS3 hc k0 kl ki hR1.rm hst hd (fun r sh' n' M' h => by obtain ⟨rfl, rfl, rfl, rfl⟩ := h; exact kk)
theorem oSn3 {a0 a1 a2 : AV} (hc : Cv (xl x) y cy mL ret (rmo f lo) G [a0, a1, a2] M none M1) (k0 : vK0 y cy mL ret 3) (ki : Cond.static y ∈ vGT) (kl : Cond.methodLink own idx y ∈ vGT) (hR1 : vRo f lo mL (xR x)) (hd : decode cc pc = .ok (.invokestatic idx, 3)) (hst : (st.map vcat).sum ≤ 8) (kk : vO x Q G cc own (pc + 3) ls st M1) : vO x Q G cc own pc ls (a2 :: a1 :: a0 :: st) M :=
  v_callS3 hc k0 kl ki hR1.rm hst hd (fun r sh' n' M' h => by obtain ⟨rfl, rfl, rfl, rfl⟩ := h; exact kk)
theorem oSq3 {a0 a1 a2 : AV} {Pm : Mem → Prop} (hc : Co (xl x) y cy mL ret (rmo f lo) G [a0, a1, a2] M (fun r M' => r = some v ∧ Pm M')) (k0 : vK0 y cy mL ret 3) (ki : Cond.static y ∈ vGT) (kl : Cond.methodLink own idx y ∈ vGT) (hR1 : vRo f lo mL (xR x)) (hd : decode cc pc = .ok (.invokestatic idx, 3)) (hst : (st.map vcat).sum ≤ 8) (kk : ∀ M' : Mem, Pm M' → vO x Q G cc own (pc + 3) ls (v :: st) M') : vO x Q G cc own pc ls (a2 :: a1 :: a0 :: st) M :=
  v_callS3 hc k0 kl ki hR1.rm hst hd (fun r sh' n' M' h => by obtain ⟨rfl, rfl, rfl, h⟩ := h; exact kk M' h)
theorem oSm3 {a0 a1 a2 : AV} {Pm : Mem → Prop} (hc : Co (xl x) y cy mL ret (rmo f lo) G [a0, a1, a2] M (fun r M' => r = none ∧ Pm M')) (k0 : vK0 y cy mL ret 3) (ki : Cond.static y ∈ vGT) (kl : Cond.methodLink own idx y ∈ vGT) (hR1 : vRo f lo mL (xR x)) (hd : decode cc pc = .ok (.invokestatic idx, 3)) (hst : (st.map vcat).sum ≤ 8) (kk : ∀ M' : Mem, Pm M' → vO x Q G cc own (pc + 3) ls st M') : vO x Q G cc own pc ls (a2 :: a1 :: a0 :: st) M :=
  v_callS3 hc k0 kl ki hR1.rm hst hd (fun r sh' n' M' h => by obtain ⟨rfl, rfl, rfl, h⟩ := h; exact kk M' h)
theorem oSp3 {a0 a1 a2 : AV} (hc : Co (xl x) y cy mL ret (rmo f lo) G [a0, a1, a2] M P) (k0 : vK0 y cy mL ret 3) (ki : Cond.static y ∈ vGT) (kl : Cond.methodLink own idx y ∈ vGT) (hR1 : vRo f lo mL (xR x)) (hd : decode cc pc = .ok (.invokestatic idx, 3)) (hst : (st.map vcat).sum ≤ 8) (kk : ∀ (r : Option AV) (M' : Mem), P r M' → vO x Q G cc own (pc + 3) ls (r.toList ++ st) M') : vO x Q G cc own pc ls (a2 :: a1 :: a0 :: st) M :=
  v_callS3 hc k0 kl ki hR1.rm hst hd (fun r sh' n' M' h => by obtain ⟨rfl, rfl, h⟩ := h; exact kk r M' h)
theorem oSNv3 {a0 a1 a2 : AV} {host : String} (hc : Cv (xl x) y cy mL ret (rmo f lo) G [a0, a1, a2] M (some v) M1) (k0 : vK0 y cy mL ret 3) (ki : Cond.static y ∈ vGT) (kl : Cond.methodLinkNest own idx y host ∈ vNW) (hR1 : vRo f lo mL (xR x)) (hd : decode cc pc = .ok (.invokestatic idx, 3)) (hst : (st.map vcat).sum ≤ 8) (kk : vO x Q G cc own (pc + 3) ls (v :: st) M1) : vO x Q G cc own pc ls (a2 :: a1 :: a0 :: st) M :=
  v_callSN3 hc k0 kl ki hR1.rm hst hd (fun r sh' n' M' h => by obtain ⟨rfl, rfl, rfl, rfl⟩ := h; exact kk)
theorem oSNn3 {a0 a1 a2 : AV} {host : String} (hc : Cv (xl x) y cy mL ret (rmo f lo) G [a0, a1, a2] M none M1) (k0 : vK0 y cy mL ret 3) (ki : Cond.static y ∈ vGT) (kl : Cond.methodLinkNest own idx y host ∈ vNW) (hR1 : vRo f lo mL (xR x)) (hd : decode cc pc = .ok (.invokestatic idx, 3)) (hst : (st.map vcat).sum ≤ 8) (kk : vO x Q G cc own (pc + 3) ls st M1) : vO x Q G cc own pc ls (a2 :: a1 :: a0 :: st) M :=
  v_callSN3 hc k0 kl ki hR1.rm hst hd (fun r sh' n' M' h => by obtain ⟨rfl, rfl, rfl, rfl⟩ := h; exact kk)
theorem oSNq3 {a0 a1 a2 : AV} {host : String} {Pm : Mem → Prop} (hc : Co (xl x) y cy mL ret (rmo f lo) G [a0, a1, a2] M (fun r M' => r = some v ∧ Pm M')) (k0 : vK0 y cy mL ret 3) (ki : Cond.static y ∈ vGT) (kl : Cond.methodLinkNest own idx y host ∈ vNW) (hR1 : vRo f lo mL (xR x)) (hd : decode cc pc = .ok (.invokestatic idx, 3)) (hst : (st.map vcat).sum ≤ 8) (kk : ∀ M' : Mem, Pm M' → vO x Q G cc own (pc + 3) ls (v :: st) M') : vO x Q G cc own pc ls (a2 :: a1 :: a0 :: st) M :=
  v_callSN3 hc k0 kl ki hR1.rm hst hd (fun r sh' n' M' h => by obtain ⟨rfl, rfl, rfl, h⟩ := h; exact kk M' h)
theorem oSNm3 {a0 a1 a2 : AV} {host : String} {Pm : Mem → Prop} (hc : Co (xl x) y cy mL ret (rmo f lo) G [a0, a1, a2] M (fun r M' => r = none ∧ Pm M')) (k0 : vK0 y cy mL ret 3) (ki : Cond.static y ∈ vGT) (kl : Cond.methodLinkNest own idx y host ∈ vNW) (hR1 : vRo f lo mL (xR x)) (hd : decode cc pc = .ok (.invokestatic idx, 3)) (hst : (st.map vcat).sum ≤ 8) (kk : ∀ M' : Mem, Pm M' → vO x Q G cc own (pc + 3) ls st M') : vO x Q G cc own pc ls (a2 :: a1 :: a0 :: st) M :=
  v_callSN3 hc k0 kl ki hR1.rm hst hd (fun r sh' n' M' h => by obtain ⟨rfl, rfl, rfl, h⟩ := h; exact kk M' h)
theorem oSNp3 {a0 a1 a2 : AV} {host : String} (hc : Co (xl x) y cy mL ret (rmo f lo) G [a0, a1, a2] M P) (k0 : vK0 y cy mL ret 3) (ki : Cond.static y ∈ vGT) (kl : Cond.methodLinkNest own idx y host ∈ vNW) (hR1 : vRo f lo mL (xR x)) (hd : decode cc pc = .ok (.invokestatic idx, 3)) (hst : (st.map vcat).sum ≤ 8) (kk : ∀ (r : Option AV) (M' : Mem), P r M' → vO x Q G cc own (pc + 3) ls (r.toList ++ st) M') : vO x Q G cc own pc ls (a2 :: a1 :: a0 :: st) M :=
  v_callSN3 hc k0 kl ki hR1.rm hst hd (fun r sh' n' M' h => by obtain ⟨rfl, rfl, h⟩ := h; exact kk r M' h)
theorem oVv3 {a0 a1 a2 : AV} {b : Nat} (ci : Nat) (hc : Cv (xl x) y cy mL ret (rmo f lo) G [aR (some b), a0, a1, a2] M (some v) M1) (k0 : vK0 y cy mL ret 3) (ki : Cond.instanceMethod y ∈ vGT ∧ Cond.selects y.cls y y ∈ vGT) (kl : Cond.methodLink own idx y ∈ vGT) (hs : SH b = some (.inl ci)) (hcl : (vwCl[ci]?).map (fun r => r.1) = some y.cls) (hR1 : vRo f lo mL (xR x)) (hd : decode cc pc = .ok (.invokevirtual idx, 3)) (hst : (st.map vcat).sum ≤ 8) (kk : vO x Q G cc own (pc + 3) ls (v :: st) M1) : vO x Q G cc own pc ls (a2 :: a1 :: a0 :: aR (some b) :: st) M :=
  v_callV3 ci hc k0 kl ki.1 ki.2 hs hcl hR1.rm hst hd (fun r sh' n' M' h => by obtain ⟨rfl, rfl, rfl, rfl⟩ := h; exact kk)
theorem oVn3 {a0 a1 a2 : AV} {b : Nat} (ci : Nat) (hc : Cv (xl x) y cy mL ret (rmo f lo) G [aR (some b), a0, a1, a2] M none M1) (k0 : vK0 y cy mL ret 3) (ki : Cond.instanceMethod y ∈ vGT ∧ Cond.selects y.cls y y ∈ vGT) (kl : Cond.methodLink own idx y ∈ vGT) (hs : SH b = some (.inl ci)) (hcl : (vwCl[ci]?).map (fun r => r.1) = some y.cls) (hR1 : vRo f lo mL (xR x)) (hd : decode cc pc = .ok (.invokevirtual idx, 3)) (hst : (st.map vcat).sum ≤ 8) (kk : vO x Q G cc own (pc + 3) ls st M1) : vO x Q G cc own pc ls (a2 :: a1 :: a0 :: aR (some b) :: st) M :=
  v_callV3 ci hc k0 kl ki.1 ki.2 hs hcl hR1.rm hst hd (fun r sh' n' M' h => by obtain ⟨rfl, rfl, rfl, rfl⟩ := h; exact kk)
theorem oVq3 {a0 a1 a2 : AV} {b : Nat} (ci : Nat) {Pm : Mem → Prop} (hc : Co (xl x) y cy mL ret (rmo f lo) G [aR (some b), a0, a1, a2] M (fun r M' => r = some v ∧ Pm M')) (k0 : vK0 y cy mL ret 3) (ki : Cond.instanceMethod y ∈ vGT ∧ Cond.selects y.cls y y ∈ vGT) (kl : Cond.methodLink own idx y ∈ vGT) (hs : SH b = some (.inl ci)) (hcl : (vwCl[ci]?).map (fun r => r.1) = some y.cls) (hR1 : vRo f lo mL (xR x)) (hd : decode cc pc = .ok (.invokevirtual idx, 3)) (hst : (st.map vcat).sum ≤ 8) (kk : ∀ M' : Mem, Pm M' → vO x Q G cc own (pc + 3) ls (v :: st) M') : vO x Q G cc own pc ls (a2 :: a1 :: a0 :: aR (some b) :: st) M :=
  v_callV3 ci hc k0 kl ki.1 ki.2 hs hcl hR1.rm hst hd (fun r sh' n' M' h => by obtain ⟨rfl, rfl, rfl, h⟩ := h; exact kk M' h)
theorem oVm3 {a0 a1 a2 : AV} {b : Nat} (ci : Nat) {Pm : Mem → Prop} (hc : Co (xl x) y cy mL ret (rmo f lo) G [aR (some b), a0, a1, a2] M (fun r M' => r = none ∧ Pm M')) (k0 : vK0 y cy mL ret 3) (ki : Cond.instanceMethod y ∈ vGT ∧ Cond.selects y.cls y y ∈ vGT) (kl : Cond.methodLink own idx y ∈ vGT) (hs : SH b = some (.inl ci)) (hcl : (vwCl[ci]?).map (fun r => r.1) = some y.cls) (hR1 : vRo f lo mL (xR x)) (hd : decode cc pc = .ok (.invokevirtual idx, 3)) (hst : (st.map vcat).sum ≤ 8) (kk : ∀ M' : Mem, Pm M' → vO x Q G cc own (pc + 3) ls st M') : vO x Q G cc own pc ls (a2 :: a1 :: a0 :: aR (some b) :: st) M :=
  v_callV3 ci hc k0 kl ki.1 ki.2 hs hcl hR1.rm hst hd (fun r sh' n' M' h => by obtain ⟨rfl, rfl, rfl, h⟩ := h; exact kk M' h)
theorem oVp3 {a0 a1 a2 : AV} {b : Nat} (ci : Nat) (hc : Co (xl x) y cy mL ret (rmo f lo) G [aR (some b), a0, a1, a2] M P) (k0 : vK0 y cy mL ret 3) (ki : Cond.instanceMethod y ∈ vGT ∧ Cond.selects y.cls y y ∈ vGT) (kl : Cond.methodLink own idx y ∈ vGT) (hs : SH b = some (.inl ci)) (hcl : (vwCl[ci]?).map (fun r => r.1) = some y.cls) (hR1 : vRo f lo mL (xR x)) (hd : decode cc pc = .ok (.invokevirtual idx, 3)) (hst : (st.map vcat).sum ≤ 8) (kk : ∀ (r : Option AV) (M' : Mem), P r M' → vO x Q G cc own (pc + 3) ls (r.toList ++ st) M') : vO x Q G cc own pc ls (a2 :: a1 :: a0 :: aR (some b) :: st) M :=
  v_callV3 ci hc k0 kl ki.1 ki.2 hs hcl hR1.rm hst hd (fun r sh' n' M' h => by obtain ⟨rfl, rfl, h⟩ := h; exact kk r M' h)
theorem oSv4 {a0 a1 a2 a3 : AV} (hc : Cv (xl x) y cy mL ret (rmo f lo) G [a0, a1, a2, a3] M (some v) M1) (k0 : vK0 y cy mL ret 4) (ki : Cond.static y ∈ vGT) (kl : Cond.methodLink own idx y ∈ vGT) (hR1 : vRo f lo mL (xR x)) (hd : decode cc pc = .ok (.invokestatic idx, 3)) (hst : (st.map vcat).sum ≤ 8) (kk : vO x Q G cc own (pc + 3) ls (v :: st) M1) : vO x Q G cc own pc ls (a3 :: a2 :: a1 :: a0 :: st) M :=
  v_callS4 hc k0 kl ki hR1.rm hst hd (fun r sh' n' M' h => by obtain ⟨rfl, rfl, rfl, rfl⟩ := h; exact kk)
theorem oSn4 {a0 a1 a2 a3 : AV} (hc : Cv (xl x) y cy mL ret (rmo f lo) G [a0, a1, a2, a3] M none M1) (k0 : vK0 y cy mL ret 4) (ki : Cond.static y ∈ vGT) (kl : Cond.methodLink own idx y ∈ vGT) (hR1 : vRo f lo mL (xR x)) (hd : decode cc pc = .ok (.invokestatic idx, 3)) (hst : (st.map vcat).sum ≤ 8) (kk : vO x Q G cc own (pc + 3) ls st M1) : vO x Q G cc own pc ls (a3 :: a2 :: a1 :: a0 :: st) M :=
  v_callS4 hc k0 kl ki hR1.rm hst hd (fun r sh' n' M' h => by obtain ⟨rfl, rfl, rfl, rfl⟩ := h; exact kk)
theorem oSq4 {a0 a1 a2 a3 : AV} {Pm : Mem → Prop} (hc : Co (xl x) y cy mL ret (rmo f lo) G [a0, a1, a2, a3] M (fun r M' => r = some v ∧ Pm M')) (k0 : vK0 y cy mL ret 4) (ki : Cond.static y ∈ vGT) (kl : Cond.methodLink own idx y ∈ vGT) (hR1 : vRo f lo mL (xR x)) (hd : decode cc pc = .ok (.invokestatic idx, 3)) (hst : (st.map vcat).sum ≤ 8) (kk : ∀ M' : Mem, Pm M' → vO x Q G cc own (pc + 3) ls (v :: st) M') : vO x Q G cc own pc ls (a3 :: a2 :: a1 :: a0 :: st) M :=
  v_callS4 hc k0 kl ki hR1.rm hst hd (fun r sh' n' M' h => by obtain ⟨rfl, rfl, rfl, h⟩ := h; exact kk M' h)
theorem oSm4 {a0 a1 a2 a3 : AV} {Pm : Mem → Prop} (hc : Co (xl x) y cy mL ret (rmo f lo) G [a0, a1, a2, a3] M (fun r M' => r = none ∧ Pm M')) (k0 : vK0 y cy mL ret 4) (ki : Cond.static y ∈ vGT) (kl : Cond.methodLink own idx y ∈ vGT) (hR1 : vRo f lo mL (xR x)) (hd : decode cc pc = .ok (.invokestatic idx, 3)) (hst : (st.map vcat).sum ≤ 8) (kk : ∀ M' : Mem, Pm M' → vO x Q G cc own (pc + 3) ls st M') : vO x Q G cc own pc ls (a3 :: a2 :: a1 :: a0 :: st) M :=
  v_callS4 hc k0 kl ki hR1.rm hst hd (fun r sh' n' M' h => by obtain ⟨rfl, rfl, rfl, h⟩ := h; exact kk M' h)
theorem oSp4 {a0 a1 a2 a3 : AV} (hc : Co (xl x) y cy mL ret (rmo f lo) G [a0, a1, a2, a3] M P) (k0 : vK0 y cy mL ret 4) (ki : Cond.static y ∈ vGT) (kl : Cond.methodLink own idx y ∈ vGT) (hR1 : vRo f lo mL (xR x)) (hd : decode cc pc = .ok (.invokestatic idx, 3)) (hst : (st.map vcat).sum ≤ 8) (kk : ∀ (r : Option AV) (M' : Mem), P r M' → vO x Q G cc own (pc + 3) ls (r.toList ++ st) M') : vO x Q G cc own pc ls (a3 :: a2 :: a1 :: a0 :: st) M :=
  v_callS4 hc k0 kl ki hR1.rm hst hd (fun r sh' n' M' h => by obtain ⟨rfl, rfl, h⟩ := h; exact kk r M' h)
theorem oSNv4 {a0 a1 a2 a3 : AV} {host : String} (hc : Cv (xl x) y cy mL ret (rmo f lo) G [a0, a1, a2, a3] M (some v) M1) (k0 : vK0 y cy mL ret 4) (ki : Cond.static y ∈ vGT) (kl : Cond.methodLinkNest own idx y host ∈ vNW) (hR1 : vRo f lo mL (xR x)) (hd : decode cc pc = .ok (.invokestatic idx, 3)) (hst : (st.map vcat).sum ≤ 8) (kk : vO x Q G cc own (pc + 3) ls (v :: st) M1) : vO x Q G cc own pc ls (a3 :: a2 :: a1 :: a0 :: st) M :=
  v_callSN4 hc k0 kl ki hR1.rm hst hd (fun r sh' n' M' h => by obtain ⟨rfl, rfl, rfl, rfl⟩ := h; exact kk)
theorem oSNn4 {a0 a1 a2 a3 : AV} {host : String} (hc : Cv (xl x) y cy mL ret (rmo f lo) G [a0, a1, a2, a3] M none M1) (k0 : vK0 y cy mL ret 4) (ki : Cond.static y ∈ vGT) (kl : Cond.methodLinkNest own idx y host ∈ vNW) (hR1 : vRo f lo mL (xR x)) (hd : decode cc pc = .ok (.invokestatic idx, 3)) (hst : (st.map vcat).sum ≤ 8) (kk : vO x Q G cc own (pc + 3) ls st M1) : vO x Q G cc own pc ls (a3 :: a2 :: a1 :: a0 :: st) M :=
  v_callSN4 hc k0 kl ki hR1.rm hst hd (fun r sh' n' M' h => by obtain ⟨rfl, rfl, rfl, rfl⟩ := h; exact kk)
theorem oSNq4 {a0 a1 a2 a3 : AV} {host : String} {Pm : Mem → Prop} (hc : Co (xl x) y cy mL ret (rmo f lo) G [a0, a1, a2, a3] M (fun r M' => r = some v ∧ Pm M')) (k0 : vK0 y cy mL ret 4) (ki : Cond.static y ∈ vGT) (kl : Cond.methodLinkNest own idx y host ∈ vNW) (hR1 : vRo f lo mL (xR x)) (hd : decode cc pc = .ok (.invokestatic idx, 3)) (hst : (st.map vcat).sum ≤ 8) (kk : ∀ M' : Mem, Pm M' → vO x Q G cc own (pc + 3) ls (v :: st) M') : vO x Q G cc own pc ls (a3 :: a2 :: a1 :: a0 :: st) M :=
  v_callSN4 hc k0 kl ki hR1.rm hst hd (fun r sh' n' M' h => by obtain ⟨rfl, rfl, rfl, h⟩ := h; exact kk M' h)
theorem oSNm4 {a0 a1 a2 a3 : AV} {host : String} {Pm : Mem → Prop} (hc : Co (xl x) y cy mL ret (rmo f lo) G [a0, a1, a2, a3] M (fun r M' => r = none ∧ Pm M')) (k0 : vK0 y cy mL ret 4) (ki : Cond.static y ∈ vGT) (kl : Cond.methodLinkNest own idx y host ∈ vNW) (hR1 : vRo f lo mL (xR x)) (hd : decode cc pc = .ok (.invokestatic idx, 3)) (hst : (st.map vcat).sum ≤ 8) (kk : ∀ M' : Mem, Pm M' → vO x Q G cc own (pc + 3) ls st M') : vO x Q G cc own pc ls (a3 :: a2 :: a1 :: a0 :: st) M :=
  v_callSN4 hc k0 kl ki hR1.rm hst hd (fun r sh' n' M' h => by obtain ⟨rfl, rfl, rfl, h⟩ := h; exact kk M' h)
theorem oSNp4 {a0 a1 a2 a3 : AV} {host : String} (hc : Co (xl x) y cy mL ret (rmo f lo) G [a0, a1, a2, a3] M P) (k0 : vK0 y cy mL ret 4) (ki : Cond.static y ∈ vGT) (kl : Cond.methodLinkNest own idx y host ∈ vNW) (hR1 : vRo f lo mL (xR x)) (hd : decode cc pc = .ok (.invokestatic idx, 3)) (hst : (st.map vcat).sum ≤ 8) (kk : ∀ (r : Option AV) (M' : Mem), P r M' → vO x Q G cc own (pc + 3) ls (r.toList ++ st) M') : vO x Q G cc own pc ls (a3 :: a2 :: a1 :: a0 :: st) M :=
  v_callSN4 hc k0 kl ki hR1.rm hst hd (fun r sh' n' M' h => by obtain ⟨rfl, rfl, h⟩ := h; exact kk r M' h)
theorem oVv4 {a0 a1 a2 a3 : AV} {b : Nat} (ci : Nat) (hc : Cv (xl x) y cy mL ret (rmo f lo) G [aR (some b), a0, a1, a2, a3] M (some v) M1) (k0 : vK0 y cy mL ret 4) (ki : Cond.instanceMethod y ∈ vGT ∧ Cond.selects y.cls y y ∈ vGT) (kl : Cond.methodLink own idx y ∈ vGT) (hs : SH b = some (.inl ci)) (hcl : (vwCl[ci]?).map (fun r => r.1) = some y.cls) (hR1 : vRo f lo mL (xR x)) (hd : decode cc pc = .ok (.invokevirtual idx, 3)) (hst : (st.map vcat).sum ≤ 8) (kk : vO x Q G cc own (pc + 3) ls (v :: st) M1) : vO x Q G cc own pc ls (a3 :: a2 :: a1 :: a0 :: aR (some b) :: st) M :=
  v_callV4 ci hc k0 kl ki.1 ki.2 hs hcl hR1.rm hst hd (fun r sh' n' M' h => by obtain ⟨rfl, rfl, rfl, rfl⟩ := h; exact kk)
theorem oVn4 {a0 a1 a2 a3 : AV} {b : Nat} (ci : Nat) (hc : Cv (xl x) y cy mL ret (rmo f lo) G [aR (some b), a0, a1, a2, a3] M none M1) (k0 : vK0 y cy mL ret 4) (ki : Cond.instanceMethod y ∈ vGT ∧ Cond.selects y.cls y y ∈ vGT) (kl : Cond.methodLink own idx y ∈ vGT) (hs : SH b = some (.inl ci)) (hcl : (vwCl[ci]?).map (fun r => r.1) = some y.cls) (hR1 : vRo f lo mL (xR x)) (hd : decode cc pc = .ok (.invokevirtual idx, 3)) (hst : (st.map vcat).sum ≤ 8) (kk : vO x Q G cc own (pc + 3) ls st M1) : vO x Q G cc own pc ls (a3 :: a2 :: a1 :: a0 :: aR (some b) :: st) M :=
  v_callV4 ci hc k0 kl ki.1 ki.2 hs hcl hR1.rm hst hd (fun r sh' n' M' h => by obtain ⟨rfl, rfl, rfl, rfl⟩ := h; exact kk)
theorem oVq4 {a0 a1 a2 a3 : AV} {b : Nat} (ci : Nat) {Pm : Mem → Prop} (hc : Co (xl x) y cy mL ret (rmo f lo) G [aR (some b), a0, a1, a2, a3] M (fun r M' => r = some v ∧ Pm M')) (k0 : vK0 y cy mL ret 4) (ki : Cond.instanceMethod y ∈ vGT ∧ Cond.selects y.cls y y ∈ vGT) (kl : Cond.methodLink own idx y ∈ vGT) (hs : SH b = some (.inl ci)) (hcl : (vwCl[ci]?).map (fun r => r.1) = some y.cls) (hR1 : vRo f lo mL (xR x)) (hd : decode cc pc = .ok (.invokevirtual idx, 3)) (hst : (st.map vcat).sum ≤ 8) (kk : ∀ M' : Mem, Pm M' → vO x Q G cc own (pc + 3) ls (v :: st) M') : vO x Q G cc own pc ls (a3 :: a2 :: a1 :: a0 :: aR (some b) :: st) M :=
  v_callV4 ci hc k0 kl ki.1 ki.2 hs hcl hR1.rm hst hd (fun r sh' n' M' h => by obtain ⟨rfl, rfl, rfl, h⟩ := h; exact kk M' h)
theorem oVm4 {a0 a1 a2 a3 : AV} {b : Nat} (ci : Nat) {Pm : Mem → Prop} (hc : Co (xl x) y cy mL ret (rmo f lo) G [aR (some b), a0, a1, a2, a3] M (fun r M' => r = none ∧ Pm M')) (k0 : vK0 y cy mL ret 4) (ki : Cond.instanceMethod y ∈ vGT ∧ Cond.selects y.cls y y ∈ vGT) (kl : Cond.methodLink own idx y ∈ vGT) (hs : SH b = some (.inl ci)) (hcl : (vwCl[ci]?).map (fun r => r.1) = some y.cls) (hR1 : vRo f lo mL (xR x)) (hd : decode cc pc = .ok (.invokevirtual idx, 3)) (hst : (st.map vcat).sum ≤ 8) (kk : ∀ M' : Mem, Pm M' → vO x Q G cc own (pc + 3) ls st M') : vO x Q G cc own pc ls (a3 :: a2 :: a1 :: a0 :: aR (some b) :: st) M :=
  v_callV4 ci hc k0 kl ki.1 ki.2 hs hcl hR1.rm hst hd (fun r sh' n' M' h => by obtain ⟨rfl, rfl, rfl, h⟩ := h; exact kk M' h)
theorem oVp4 {a0 a1 a2 a3 : AV} {b : Nat} (ci : Nat) (hc : Co (xl x) y cy mL ret (rmo f lo) G [aR (some b), a0, a1, a2, a3] M P) (k0 : vK0 y cy mL ret 4) (ki : Cond.instanceMethod y ∈ vGT ∧ Cond.selects y.cls y y ∈ vGT) (kl : Cond.methodLink own idx y ∈ vGT) (hs : SH b = some (.inl ci)) (hcl : (vwCl[ci]?).map (fun r => r.1) = some y.cls) (hR1 : vRo f lo mL (xR x)) (hd : decode cc pc = .ok (.invokevirtual idx, 3)) (hst : (st.map vcat).sum ≤ 8) (kk : ∀ (r : Option AV) (M' : Mem), P r M' → vO x Q G cc own (pc + 3) ls (r.toList ++ st) M') : vO x Q G cc own pc ls (a3 :: a2 :: a1 :: a0 :: aR (some b) :: st) M :=
  v_callV4 ci hc k0 kl ki.1 ki.2 hs hcl hR1.rm hst hd (fun r sh' n' M' h => by obtain ⟨rfl, rfl, h⟩ := h; exact kk r M' h)
theorem v_ldcw {idx : Nat} {w : Int32} (z : Int) (hc : Cond.constant own idx w ∈ vGT) (hv : w = Int32.ofInt z) (hd : decode cc pc = .ok (.ldc_w idx, 3)) (k : vO x Q G cc own (pc + 3) ls (aI z :: st) M) : vO x Q G cc own pc ls st M :=
  fun C H locs la hR hS hL => lv_ldcw C.1 C.2.1 C.2.2.2.1 (C.2.2.2.2.1 _ hc) hd (by rw [hv]; exact k C H locs la hR hS hL)
theorem Co.ofV {l : Launch} {y : MethodName} {cy : ByteArray} {mL : Nat} {ret : Option FieldType} {f lo : Nat} {G : vGG} {As : List AV} {M : Mem} {P : Option AV → Mem → Prop} {ls : List (Option AV)}
    (hy : plainFor y = true) (hls : vent G As ++ List.replicate (mL - (vent G As).length) none = ls) (hlen : ls.length = mL)
    (body : ∀ x : vXX, xl x = l → xR x = rmo f lo → (xM x).locks = false → (xM x).sig.returnType = ret → ∀ Q : State → Prop, Q = MQ (xb x) (vQc G (vP P)) (xa x) (xs x) 0 0 (vnew G) → vO x Q G cy y.cls 0 ls [] M) :
    Co l y cy mL ret (rmo f lo) G As M P := Ct.ofV hy hls hlen (fun x h1 h2 h3 h4 _ Q hQ => body x h1 h2 h3 h4 Q hQ)
theorem o_iret {z : Int} (hQ : Q = MQ (xb x) (vQc G (vP P)) (xa x) (xs x) 0 0 (vnew G)) (hk : (xM x).locks = false) (hr : (xM x).sig.returnType = some .int) (hd : decode cc pc = .ok (.ireturn, 1)) (hp : P (some (aI z)) M) : vO x Q G cc own pc ls [aI z] M := v_iret hQ (Nat.le_refl _) (Nat.le_refl _) hk hr hd ⟨rfl, rfl, hp⟩
theorem o_zret {z : Int} (hQ : Q = MQ (xb x) (vQc G (vP P)) (xa x) (xs x) 0 0 (vnew G)) (hk : (xM x).locks = false) (hr : (xM x).sig.returnType = some .boolean) (hz : z = 0 ∨ z = 1) (hd : decode cc pc = .ok (.ireturn, 1)) (hp : P (some (aI z)) M) : vO x Q G cc own pc ls [aI z] M := v_zret hz hQ (Nat.le_refl _) (Nat.le_refl _) hk hr hd ⟨rfl, rfl, hp⟩
theorem o_lret {z : Int} (hQ : Q = MQ (xb x) (vQc G (vP P)) (xa x) (xs x) 0 0 (vnew G)) (hk : (xM x).locks = false) (hr : (xM x).sig.returnType = some .long) (hd : decode cc pc = .ok (.lreturn, 1)) (hp : P (some (aL z)) M) : vO x Q G cc own pc ls [aL z] M := v_lret hQ (Nat.le_refl _) (Nat.le_refl _) hk hr hd ⟨rfl, rfl, hp⟩
theorem o_ret (hQ : Q = MQ (xb x) (vQc G (vP P)) (xa x) (xs x) 0 0 (vnew G)) (hk : (xM x).locks = false) (hr : (xM x).sig.returnType = none) (hd : decode cc pc = .ok (.return_, 1)) (hp : P none M) : vO x Q G cc own pc ls [] M := v_ret hQ (Nat.le_refl _) (Nat.le_refl _) hk hr hd ⟨rfl, rfl, hp⟩
/-- an int array's value under another name -/
theorem o_iald {i len j : Nat} {z u : Int} (hs : SH i = some (.inr (0, len))) (hz : z = (j : Int)) (hj : j < len ∧ len ≤ 2147483647) (hu : M.1 i j = u) (hd : decode cc pc = .ok (.iaload, 1)) (kk : vO x Q G cc own (pc + 1) ls (aI u :: st) M) : vO x Q G cc own pc ls (aI z :: aR (some i) :: st) M := by
  subst hz
  refine v_iald hs (by omega) hd ?_
  rw [Int.toNat_natCast, hu]
  exact kk
theorem o_zald {i len j : Nat} {z u : Int} (hs : SH i = some (.inr (1, len))) (hz : z = (j : Int)) (hj : j < len ∧ len ≤ 2147483647) (hu : M.1 i j = u) (hd : decode cc pc = .ok (.baload, 1)) (kk : vO x Q G cc own (pc + 1) ls (aI u :: st) M) : vO x Q G cc own pc ls (aI z :: aR (some i) :: st) M := by
  subst hz
  refine v_zald hs (by omega) hd ?_
  rw [Int.toNat_natCast, hu]
  exact kk
theorem o_iast {i len j : Nat} {z u : Int} (hi : i < 1000) (hs : SH i = some (.inr (0, len))) (hz : z = (j : Int)) (hj : j < len ∧ len ≤ 2147483647) (hd : decode cc pc = .ok (.iastore, 1)) (kk : vO x Q G cc own (pc + 1) ls st (vup M.1 i j u, M.2)) : vO x Q G cc own pc ls (aI u :: aI z :: aR (some i) :: st) M := by
  subst hz
  refine v_iast hi hs (by omega) hd ?_
  rw [Int.toNat_natCast]
  exact kk
theorem o_zast {i len j : Nat} {z u : Int} (hu : u = 0 ∨ u = 1) (hi : i < 1000) (hs : SH i = some (.inr (1, len))) (hz : z = (j : Int)) (hj : j < len ∧ len ≤ 2147483647) (hd : decode cc pc = .ok (.bastore, 1)) (kk : vO x Q G cc own (pc + 1) ls st (vup M.1 i j u, M.2)) : vO x Q G cc own pc ls (aI u :: aI z :: aR (some i) :: st) M := by
  subst hz
  refine v_zast hu hi hs (by omega) hd ?_
  rw [Int.toNat_natCast]
  exact kk
theorem o_getI {k i ci : Nat} {u : Int} (hf : vLk own idx ci k) (hr : vrefF ci k = false) (hs : SH i = some (.inl ci)) (hu : M.1 i k = u) (hd : decode cc pc = .ok (.getfield idx, 3)) (kk : vO x Q G cc own (pc + 3) ls (aI u :: st) M) : vO x Q G cc own pc ls (aR (some i) :: st) M := by
  subst hu
  exact v_getI hf hr hs hd kk
/-- an int under another name -/
theorem o_eqI {z u : Int} (h : z = u) (kk : vO x Q G cc own pc ls (aI u :: st) M) : vO x Q G cc own pc ls (aI z :: st) M := h ▸ kk
theorem o_mem {M' : Mem} (h : M = M') (kk : vO x Q G cc own pc ls st M') : vO x Q G cc own pc ls st M := h ▸ kk
end VO
