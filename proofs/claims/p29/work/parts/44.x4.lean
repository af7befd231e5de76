/-! ===== the class: copies of states ===== -/
def xlen : Nat → Nat
  | 5 => 192
  | 6 => 9
  | 7 => 2
  | 8 => 2
  | _ => 8
/-- the arrays l of the state a stand in the state b -/
def tC (a b : Nat) (l : List Nat) (M0 K : Mem) : Prop := K.2 = M0.2 ∧ (∀ k, k ∈ l → ∀ j, j < xlen k → K.1 (b + 1 + k) j = M0.1 (a + 1 + k) j) ∧ ∀ i, (∀ k, k ∈ l → i ≠ b + 1 + k) → K.1 i = M0.1 i
theorem tC.rf {a b : Nat} {M : Mem} : tC a b [] M M := ⟨rfl, fun k h => absurd h (by simp), fun _ _ => rfl⟩
theorem ab_d {a b : Nat} (ha : stB a) (hb : stB b) (h : a ≠ b) : a + 10 ≤ b ∨ b + 10 ≤ a := by
  unfold stB at ha hb
  omega
theorem tC.src {a b : Nat} {l : List Nat} {M0 K : Mem} (h : tC a b l M0 K) (hl : ∀ k, k ∈ l → k < 9) (hd : a + 10 ≤ b ∨ b + 10 ≤ a) {i : Nat} (h1 : a ≤ i) (h2 : i < a + 10) : K.1 i = M0.1 i :=
  h.2.2 i (fun k hk => by have := hl k hk; omega)
section OCS
variable {x : vXX} {Q : State → Prop} {G : vGG} {cc : ByteArray} {own : String} {pc : Nat} {ls : List (Option AV)} {st : List AV} {M0 M : Mem}
theorem o_cs {a b n : Nat} {l : List Nat} (hn : n < 9) (hl : ∀ k, k ∈ l → k < 9) (hd : a + 10 ≤ b ∨ b + 10 ≤ a) (h : tC a b l M0 M) (kk : ∀ K : Mem, tC a b (n :: l) M0 K → vO x Q G cc own pc ls st K) : vO x Q G cc own pc ls st (vcp M (a + 1 + n) 0 (b + 1 + n) 0 (xlen n)) := by
  refine kk _ ⟨h.1, fun k hk j hj => ?_, fun i hi => ?_⟩
  · show (if b + 1 + k = b + 1 + n ∧ 0 ≤ j ∧ j < 0 + xlen n then M.1 (a + 1 + n) (0 + (j - 0)) else M.1 (b + 1 + k) j) = _
    by_cases e : k = n
    · subst e
      rw [if_pos ⟨rfl, Nat.zero_le _, by omega⟩, Nat.zero_add, Nat.sub_zero, h.src hl hd (i := a + 1 + k) (by omega) (by omega)]
    · rw [if_neg (by omega)]
      refine h.2.1 k ?_ j hj
      rcases List.mem_cons.mp hk with q | q
      · exact absurd q e
      · exact q
  · funext j
    show (if i = b + 1 + n ∧ 0 ≤ j ∧ j < 0 + xlen n then M.1 (a + 1 + n) (0 + (j - 0)) else M.1 i j) = _
    rw [if_neg (fun q => hi n List.mem_cons_self q.1), h.2.2 i (fun k hk => hi k (List.mem_cons_of_mem _ hk))]
end OCS
set_option maxRecDepth 100000 in
set_option maxHeartbeats 400000 in
theorem c_X0_takeStops {l : Launch} {G : vGG} {M : Mem} {v : Sg} {a b : Nat} (ha : stB a) (hb : stB b) (hab : a ≠ b) (hLX : LayX M.2) (hX : XS a v M.1) (hI : sInv v) : Co l yX0_takeStops cX0_takeStops 2 none (rmo 1 18) G [aR (some b), aR (some a)] M (fun r M' => r = none ∧ ∃ K : Mem, tC a b [7, 5, 4, 3, 2, 1, 0] M K ∧ M' = ((vup (vup (vup K.1 b 9 (((sDrw v : Nat) : Int))) b 10 (v 10 % 2)) b 11 (v 10 / 2)), K.2)) := by
  refine Co.ofV (plainFor_of_name (by decide)) rfl rfl ?_
  intro x hxl hxR hlk hrt Q hQ
  have hd := ab_d ha hb hab
  have hal := stB_lt ha
  have hbl := stB_lt hb
  have hk := iv_key hI
  have hC : tC a b [] M M := tC.rf
  have hXK := hX
  show vO x Q G cX0_takeStops RX0 0 [some (aR (some b)), some (aR (some a))] [] M
  refine v_aload_n 1 dX0_takeStops_0 rfl rfl ?_
  refine v_getR lk_X0_9 rfl (st_o ha) (hLX.1 a ha 0 (by decide)) dX0_takeStops_1 ?_
  refine v_iconst dX0_takeStops_4 ?_
  refine v_aload_n 0 dX0_takeStops_5 rfl rfl ?_
  refine v_getR lk_X0_9 rfl (st_o hb) (hLX.1 b hb 0 (by decide)) dX0_takeStops_6 ?_
  refine v_iconst dX0_takeStops_9 ?_
  refine v_bipush dX0_takeStops_10 (by decide) ?_
  refine v_acopy 0 0 8 ml_X0_49 lac_n lac_s lac_i (st_a0 ha) (st_a0 hb) (by omega) (by omega) (by omega) (by omega) (by omega) (by omega) (by omega) rfl (by rw [hxR]; decide) (by rw [hxR]; decide) dX0_takeStops_12 ?_
  refine o_cs (a := a) (b := b) (n := 0) (l := []) (by decide) (by decide) hd hC (fun K hC => ?_)
  have hLK : LayX K.2 := by rw [hC.1]; exact hLX
  have hXK : XS a v K.1 := hX.keep (fun i h1 h2 => hC.src (by decide) hd h1 h2)
  refine v_aload_n 1 dX0_takeStops_15 rfl rfl ?_
  refine v_getR lk_X0_15 rfl (st_o ha) (hLK.1 a ha 1 (by decide)) dX0_takeStops_16 ?_
  refine v_iconst dX0_takeStops_19 ?_
  refine v_aload_n 0 dX0_takeStops_20 rfl rfl ?_
  refine v_getR lk_X0_15 rfl (st_o hb) (hLK.1 b hb 1 (by decide)) dX0_takeStops_21 ?_
  refine v_iconst dX0_takeStops_24 ?_
  refine v_bipush dX0_takeStops_25 (by decide) ?_
  refine v_acopy 0 0 8 ml_X0_49 lac_n lac_s lac_i (st_a1 ha) (st_a1 hb) (by omega) (by omega) (by omega) (by omega) (by omega) (by omega) (by omega) rfl (by rw [hxR]; decide) (by rw [hxR]; decide) dX0_takeStops_27 ?_
  refine o_cs (a := a) (b := b) (n := 1) (l := [0]) (by decide) (by decide) hd hC (fun K hC => ?_)
  have hLK : LayX K.2 := by rw [hC.1]; exact hLX
  have hXK : XS a v K.1 := hX.keep (fun i h1 h2 => hC.src (by decide) hd h1 h2)
  refine v_aload_n 1 dX0_takeStops_30 rfl rfl ?_
  refine v_getR lk_X0_18 rfl (st_o ha) (hLK.1 a ha 2 (by decide)) dX0_takeStops_31 ?_
  refine v_iconst dX0_takeStops_34 ?_
  refine v_aload_n 0 dX0_takeStops_35 rfl rfl ?_
  refine v_getR lk_X0_18 rfl (st_o hb) (hLK.1 b hb 2 (by decide)) dX0_takeStops_36 ?_
  refine v_iconst dX0_takeStops_39 ?_
  refine v_bipush dX0_takeStops_40 (by decide) ?_
  refine v_acopy 0 0 8 ml_X0_49 lac_n lac_s lac_i (st_a2 ha) (st_a2 hb) (by omega) (by omega) (by omega) (by omega) (by omega) (by omega) (by omega) rfl (by rw [hxR]; decide) (by rw [hxR]; decide) dX0_takeStops_42 ?_
  refine o_cs (a := a) (b := b) (n := 2) (l := [1, 0]) (by decide) (by decide) hd hC (fun K hC => ?_)
  have hLK : LayX K.2 := by rw [hC.1]; exact hLX
  have hXK : XS a v K.1 := hX.keep (fun i h1 h2 => hC.src (by decide) hd h1 h2)
  refine v_aload_n 1 dX0_takeStops_45 rfl rfl ?_
  refine v_getR lk_X0_21 rfl (st_o ha) (hLK.1 a ha 3 (by decide)) dX0_takeStops_46 ?_
  refine v_iconst dX0_takeStops_49 ?_
  refine v_aload_n 0 dX0_takeStops_50 rfl rfl ?_
  refine v_getR lk_X0_21 rfl (st_o hb) (hLK.1 b hb 3 (by decide)) dX0_takeStops_51 ?_
  refine v_iconst dX0_takeStops_54 ?_
  refine v_bipush dX0_takeStops_55 (by decide) ?_
  refine v_acopy 0 0 8 ml_X0_49 lac_n lac_s lac_i (st_a3 ha) (st_a3 hb) (by omega) (by omega) (by omega) (by omega) (by omega) (by omega) (by omega) rfl (by rw [hxR]; decide) (by rw [hxR]; decide) dX0_takeStops_57 ?_
  refine o_cs (a := a) (b := b) (n := 3) (l := [2, 1, 0]) (by decide) (by decide) hd hC (fun K hC => ?_)
  have hLK : LayX K.2 := by rw [hC.1]; exact hLX
  have hXK : XS a v K.1 := hX.keep (fun i h1 h2 => hC.src (by decide) hd h1 h2)
  refine v_aload_n 1 dX0_takeStops_60 rfl rfl ?_
  refine v_getR lk_X0_24 rfl (st_o ha) (hLK.1 a ha 4 (by decide)) dX0_takeStops_61 ?_
  refine v_iconst dX0_takeStops_64 ?_
  refine v_aload_n 0 dX0_takeStops_65 rfl rfl ?_
  refine v_getR lk_X0_24 rfl (st_o hb) (hLK.1 b hb 4 (by decide)) dX0_takeStops_66 ?_
  refine v_iconst dX0_takeStops_69 ?_
  refine v_bipush dX0_takeStops_70 (by decide) ?_
  refine v_acopy 0 0 8 ml_X0_49 lac_n lac_s lac_i (st_a4 ha) (st_a4 hb) (by omega) (by omega) (by omega) (by omega) (by omega) (by omega) (by omega) rfl (by rw [hxR]; decide) (by rw [hxR]; decide) dX0_takeStops_72 ?_
  refine o_cs (a := a) (b := b) (n := 4) (l := [3, 2, 1, 0]) (by decide) (by decide) hd hC (fun K hC => ?_)
  have hLK : LayX K.2 := by rw [hC.1]; exact hLX
  have hXK : XS a v K.1 := hX.keep (fun i h1 h2 => hC.src (by decide) hd h1 h2)
  refine v_aload_n 1 dX0_takeStops_75 rfl rfl ?_
  refine v_getR lk_X0_27 rfl (st_o ha) (hLK.1 a ha 5 (by decide)) dX0_takeStops_76 ?_
  refine v_iconst dX0_takeStops_79 ?_
  refine v_aload_n 0 dX0_takeStops_80 rfl rfl ?_
  refine v_getR lk_X0_27 rfl (st_o hb) (hLK.1 b hb 5 (by decide)) dX0_takeStops_81 ?_
  refine v_iconst dX0_takeStops_84 ?_
  refine v_sipush dX0_takeStops_85 (by decide) ?_
  refine v_acopy 0 0 192 ml_X0_49 lac_n lac_s lac_i (st_a5 ha) (st_a5 hb) (by omega) (by omega) (by omega) (by omega) (by omega) (by omega) (by omega) rfl (by rw [hxR]; decide) (by rw [hxR]; decide) dX0_takeStops_88 ?_
  refine o_cs (a := a) (b := b) (n := 5) (l := [4, 3, 2, 1, 0]) (by decide) (by decide) hd hC (fun K hC => ?_)
  have hLK : LayX K.2 := by rw [hC.1]; exact hLX
  have hXK : XS a v K.1 := hX.keep (fun i h1 h2 => hC.src (by decide) hd h1 h2)
  refine v_aload_n 1 dX0_takeStops_91 rfl rfl ?_
  refine v_getR lk_X0_33 rfl (st_o ha) (hLK.1 a ha 7 (by decide)) dX0_takeStops_92 ?_
  refine v_iconst dX0_takeStops_95 ?_
  refine v_aload_n 0 dX0_takeStops_96 rfl rfl ?_
  refine v_getR lk_X0_33 rfl (st_o hb) (hLK.1 b hb 7 (by decide)) dX0_takeStops_97 ?_
  refine v_iconst dX0_takeStops_100 ?_
  refine v_iconst dX0_takeStops_101 ?_
  refine v_acopy 0 0 2 ml_X0_49 lac_n lac_s lac_i (st_a7 ha) (st_a7 hb) (by omega) (by omega) (by omega) (by omega) (by omega) (by omega) (by omega) rfl (by rw [hxR]; decide) (by rw [hxR]; decide) dX0_takeStops_102 ?_
  refine o_cs (a := a) (b := b) (n := 7) (l := [5, 4, 3, 2, 1, 0]) (by decide) (by decide) hd hC (fun K hC => ?_)
  have hLK : LayX K.2 := by rw [hC.1]; exact hLX
  have hXK : XS a v K.1 := hX.keep (fun i h1 h2 => hC.src (by decide) hd h1 h2)
  refine v_aload_n 0 dX0_takeStops_105 rfl rfl ?_
  refine v_aload_n 1 dX0_takeStops_106 rfl rfl ?_
  refine o_getI (u := ((sDrw v : Nat) : Int)) lk_X0_55 rfl (st_o ha) (xs_drw hXK) dX0_takeStops_107 ?_
  refine v_putI lp_X0_55 rfl rfl (st_o hb) dX0_takeStops_110 ?_
  obtain ⟨K1, q1⟩ : ∃ K1 : Mem, K1 = (vup K.1 b 9 (((sDrw v : Nat) : Int)), K.2) := ⟨_, rfl⟩
  rw [← q1]
  have hLK : LayX K1.2 := by rw [q1]; exact hLK
  have hXK : XS a v K1.1 := by rw [q1]; exact hXK.keep (fun i h1 h2 => by funext k; exact vup_o (by omega))
  refine v_aload_n 0 dX0_takeStops_113 rfl rfl ?_
  refine v_aload_n 1 dX0_takeStops_114 rfl rfl ?_
  refine o_getI (u := (v 10 % 2)) lk_X0_58 rfl (st_o ha) (xs_mc hXK) dX0_takeStops_115 ?_
  refine v_putZ lp_X0_58 rfl rfl (by omega) (st_o hb) dX0_takeStops_118 ?_
  obtain ⟨K2, q2⟩ : ∃ K2 : Mem, K2 = (vup K1.1 b 10 (v 10 % 2), K1.2) := ⟨_, rfl⟩
  rw [← q2]
  have hLK : LayX K2.2 := by rw [q2]; exact hLK
  have hXK : XS a v K2.1 := by rw [q2]; exact hXK.keep (fun i h1 h2 => by funext k; exact vup_o (by omega))
  refine v_aload_n 0 dX0_takeStops_121 rfl rfl ?_
  refine v_aload_n 1 dX0_takeStops_122 rfl rfl ?_
  refine o_getI (u := (v 10 / 2)) lk_X0_62 rfl (st_o ha) (xs_oc hXK) dX0_takeStops_123 ?_
  refine v_putZ lp_X0_62 rfl rfl (by omega) (st_o hb) dX0_takeStops_126 ?_
  obtain ⟨K3, q3⟩ : ∃ K3 : Mem, K3 = (vup K2.1 b 11 (v 10 / 2), K2.2) := ⟨_, rfl⟩
  rw [← q3]
  have hLK : LayX K3.2 := by rw [q3]; exact hLK
  have hXK : XS a v K3.1 := by rw [q3]; exact hXK.keep (fun i h1 h2 => by funext k; exact vup_o (by omega))
  refine o_ret hQ hlk hrt dX0_takeStops_129 ?_
  exact ⟨rfl, K, hC, by rw [q3, q2, q1]⟩
set_option maxRecDepth 100000 in
set_option maxHeartbeats 400000 in
theorem c_X0_takeBellows {l : Launch} {G : vGG} {M : Mem} {v : Sg} {a b : Nat} (ha : stB a) (hb : stB b) (hab : a ≠ b) (hLX : LayX M.2) (hX : XS a v M.1) (hI : sInv v) : Co l yX0_takeBellows cX0_takeBellows 2 none (rmo 1 18) G [aR (some b), aR (some a)] M (fun r M' => r = none ∧ ∃ K : Mem, tC a b [8, 6] M K ∧ M' = ((vup (vup (vup (vup (vup (vup (vup (vup K.1 b 12 (v 0)) b 13 (v 13)) b 14 (v 14)) b 15 (v 16)) b 16 (1 - v 17)) b 17 (v 20)) b 18 (M.1 a 18)) b 19 (v 22)), K.2)) := by
  refine Co.ofV (plainFor_of_name (by decide)) rfl rfl ?_
  intro x hxl hxR hlk hrt Q hQ
  have hd := ab_d ha hb hab
  have hal := stB_lt ha
  have hbl := stB_lt hb
  have hk := iv_key hI
  have hC : tC a b [] M M := tC.rf
  have hXK := hX
  show vO x Q G cX0_takeBellows RX0 0 [some (aR (some b)), some (aR (some a))] [] M
  refine v_aload_n 1 dX0_takeBellows_0 rfl rfl ?_
  refine v_getR lk_X0_30 rfl (st_o ha) (hLX.1 a ha 6 (by decide)) dX0_takeBellows_1 ?_
  refine v_iconst dX0_takeBellows_4 ?_
  refine v_aload_n 0 dX0_takeBellows_5 rfl rfl ?_
  refine v_getR lk_X0_30 rfl (st_o hb) (hLX.1 b hb 6 (by decide)) dX0_takeBellows_6 ?_
  refine v_iconst dX0_takeBellows_9 ?_
  refine v_bipush dX0_takeBellows_10 (by decide) ?_
  refine v_acopy 0 0 9 ml_X0_49 lac_n lac_s lac_i (st_a6 ha) (st_a6 hb) (by omega) (by omega) (by omega) (by omega) (by omega) (by omega) (by omega) rfl (by rw [hxR]; decide) (by rw [hxR]; decide) dX0_takeBellows_12 ?_
  refine o_cs (a := a) (b := b) (n := 6) (l := []) (by decide) (by decide) hd hC (fun K hC => ?_)
  have hLK : LayX K.2 := by rw [hC.1]; exact hLX
  have hXK : XS a v K.1 := hX.keep (fun i h1 h2 => hC.src (by decide) hd h1 h2)
  refine v_aload_n 1 dX0_takeBellows_15 rfl rfl ?_
  refine v_getR lk_X0_36 rfl (st_o ha) (hLK.1 a ha 8 (by decide)) dX0_takeBellows_16 ?_
  refine v_iconst dX0_takeBellows_19 ?_
  refine v_aload_n 0 dX0_takeBellows_20 rfl rfl ?_
  refine v_getR lk_X0_36 rfl (st_o hb) (hLK.1 b hb 8 (by decide)) dX0_takeBellows_21 ?_
  refine v_iconst dX0_takeBellows_24 ?_
  refine v_iconst dX0_takeBellows_25 ?_
  refine v_acopy 0 0 2 ml_X0_49 lac_n lac_s lac_i (st_a8 ha) (st_a8 hb) (by omega) (by omega) (by omega) (by omega) (by omega) (by omega) (by omega) rfl (by rw [hxR]; decide) (by rw [hxR]; decide) dX0_takeBellows_26 ?_
  refine o_cs (a := a) (b := b) (n := 8) (l := [6]) (by decide) (by decide) hd hC (fun K hC => ?_)
  have hLK : LayX K.2 := by rw [hC.1]; exact hLX
  have hXK : XS a v K.1 := hX.keep (fun i h1 h2 => hC.src (by decide) hd h1 h2)
  refine v_aload_n 0 dX0_takeBellows_29 rfl rfl ?_
  refine v_aload_n 1 dX0_takeBellows_30 rfl rfl ?_
  refine o_getI (u := (v 0)) lk_X0_39 rfl (st_o ha) (xs_vol hXK) dX0_takeBellows_31 ?_
  refine v_putI lp_X0_39 rfl rfl (st_o hb) dX0_takeBellows_34 ?_
  obtain ⟨K1, q1⟩ : ∃ K1 : Mem, K1 = (vup K.1 b 12 (v 0), K.2) := ⟨_, rfl⟩
  rw [← q1]
  have hLK : LayX K1.2 := by rw [q1]; exact hLK
  have hXK : XS a v K1.1 := by rw [q1]; exact hXK.keep (fun i h1 h2 => by funext k; exact vup_o (by omega))
  refine v_aload_n 0 dX0_takeBellows_37 rfl rfl ?_
  refine v_aload_n 1 dX0_takeBellows_38 rfl rfl ?_
  refine o_getI (u := (v 13)) lk_X0_65 rfl (st_o ha) (xs_tim hXK) dX0_takeBellows_39 ?_
  refine v_putI lp_X0_65 rfl rfl (st_o hb) dX0_takeBellows_42 ?_
  obtain ⟨K2, q2⟩ : ∃ K2 : Mem, K2 = (vup K1.1 b 13 (v 13), K1.2) := ⟨_, rfl⟩
  rw [← q2]
  have hLK : LayX K2.2 := by rw [q2]; exact hLK
  have hXK : XS a v K2.1 := by rw [q2]; exact hXK.keep (fun i h1 h2 => by funext k; exact vup_o (by omega))
  refine v_aload_n 0 dX0_takeBellows_45 rfl rfl ?_
  refine v_aload_n 1 dX0_takeBellows_46 rfl rfl ?_
  refine o_getI (u := (v 14)) lk_X0_68 rfl (st_o ha) (xs_mad hXK) dX0_takeBellows_47 ?_
  refine v_putI lp_X0_68 rfl rfl (st_o hb) dX0_takeBellows_50 ?_
  obtain ⟨K3, q3⟩ : ∃ K3 : Mem, K3 = (vup K2.1 b 14 (v 14), K2.2) := ⟨_, rfl⟩
  rw [← q3]
  have hLK : LayX K3.2 := by rw [q3]; exact hLK
  have hXK : XS a v K3.1 := by rw [q3]; exact hXK.keep (fun i h1 h2 => by funext k; exact vup_o (by omega))
  refine v_aload_n 0 dX0_takeBellows_53 rfl rfl ?_
  refine v_aload_n 1 dX0_takeBellows_54 rfl rfl ?_
  refine o_getI (u := (v 16)) lk_X0_71 rfl (st_o ha) (xs_spi hXK) dX0_takeBellows_55 ?_
  refine v_putI lp_X0_71 rfl rfl (st_o hb) dX0_takeBellows_58 ?_
  obtain ⟨K4, q4⟩ : ∃ K4 : Mem, K4 = (vup K3.1 b 15 (v 16), K3.2) := ⟨_, rfl⟩
  rw [← q4]
  have hLK : LayX K4.2 := by rw [q4]; exact hLK
  have hXK : XS a v K4.1 := by rw [q4]; exact hXK.keep (fun i h1 h2 => by funext k; exact vup_o (by omega))
  refine v_aload_n 0 dX0_takeBellows_61 rfl rfl ?_
  refine v_aload_n 1 dX0_takeBellows_62 rfl rfl ?_
  refine o_getI (u := (1 - v 17)) lk_X0_43 rfl (st_o ha) (xs_lf hXK) dX0_takeBellows_63 ?_
  refine v_putI lp_X0_43 rfl rfl (st_o hb) dX0_takeBellows_66 ?_
  obtain ⟨K5, q5⟩ : ∃ K5 : Mem, K5 = (vup K4.1 b 16 (1 - v 17), K4.2) := ⟨_, rfl⟩
  rw [← q5]
  have hLK : LayX K5.2 := by rw [q5]; exact hLK
  have hXK : XS a v K5.1 := by rw [q5]; exact hXK.keep (fun i h1 h2 => by funext k; exact vup_o (by omega))
  refine v_aload_n 0 dX0_takeBellows_69 rfl rfl ?_
  refine v_aload_n 1 dX0_takeBellows_70 rfl rfl ?_
  refine o_getI (u := (v 20)) lk_X0_74 rfl (st_o ha) (xs_sl hXK) dX0_takeBellows_71 ?_
  refine v_putI lp_X0_74 rfl rfl (st_o hb) dX0_takeBellows_74 ?_
  obtain ⟨K6, q6⟩ : ∃ K6 : Mem, K6 = (vup K5.1 b 17 (v 20), K5.2) := ⟨_, rfl⟩
  rw [← q6]
  have hLK : LayX K6.2 := by rw [q6]; exact hLK
  have hXK : XS a v K6.1 := by rw [q6]; exact hXK.keep (fun i h1 h2 => by funext k; exact vup_o (by omega))
  refine v_aload_n 0 dX0_takeBellows_77 rfl rfl ?_
  refine v_aload_n 1 dX0_takeBellows_78 rfl rfl ?_
  refine o_getI (u := (M.1 a 18)) lk_X0_77 rfl (st_o ha) (by rw [q6]; dsimp only; rw [vup_o (by omega), q5]; dsimp only; rw [vup_o (by omega), q4]; dsimp only; rw [vup_o (by omega), q3]; dsimp only; rw [vup_o (by omega), q2]; dsimp only; rw [vup_o (by omega), q1]; dsimp only; rw [vup_o (by omega), hC.src (by decide) hd (i := a) (by omega) (by omega)]) dX0_takeBellows_79 ?_
  refine v_putI lp_X0_77 rfl rfl (st_o hb) dX0_takeBellows_82 ?_
  obtain ⟨K7, q7⟩ : ∃ K7 : Mem, K7 = (vup K6.1 b 18 (M.1 a 18), K6.2) := ⟨_, rfl⟩
  rw [← q7]
  have hLK : LayX K7.2 := by rw [q7]; exact hLK
  have hXK : XS a v K7.1 := by rw [q7]; exact hXK.keep (fun i h1 h2 => by funext k; exact vup_o (by omega))
  refine v_aload_n 0 dX0_takeBellows_85 rfl rfl ?_
  refine v_aload_n 1 dX0_takeBellows_86 rfl rfl ?_
  refine o_getI (u := (v 22)) lk_X0_80 rfl (st_o ha) (xs_st hXK) dX0_takeBellows_87 ?_
  refine v_putI lp_X0_80 rfl rfl (st_o hb) dX0_takeBellows_90 ?_
  obtain ⟨K8, q8⟩ : ∃ K8 : Mem, K8 = (vup K7.1 b 19 (v 22), K7.2) := ⟨_, rfl⟩
  rw [← q8]
  have hLK : LayX K8.2 := by rw [q8]; exact hLK
  have hXK : XS a v K8.1 := by rw [q8]; exact hXK.keep (fun i h1 h2 => by funext k; exact vup_o (by omega))
  refine o_ret hQ hlk hrt dX0_takeBellows_93 ?_
  exact ⟨rfl, K, hC, by rw [q8, q7, q6, q5, q4, q3, q2, q1]⟩
theorem xs_copy {a b : Nat} {v : Sg} {M M1 M2 K1 K2 : Mem} (hX : XS a v M.1) (hd : a + 10 ≤ b ∨ b + 10 ≤ a) (h1 : tC a b [7, 5, 4, 3, 2, 1, 0] M K1) (e1 : M1 = ((vup (vup (vup K1.1 b 9 (((sDrw v : Nat) : Int))) b 10 (v 10 % 2)) b 11 (v 10 / 2)), K1.2)) (h2 : tC a b [8, 6] M1 K2) (e2 : M2 = ((vup (vup (vup (vup (vup (vup (vup (vup K2.1 b 12 (v 0)) b 13 (v 13)) b 14 (v 14)) b 15 (v 16)) b 16 (1 - v 17)) b 17 (v 20)) b 18 (M1.1 a 18)) b 19 (v 22)), K2.2)) : fz b (b + 10) 1 0 M M2 ∧ XS b v M2.1 := by
  have A1 : ∀ i, i ≠ b → M1.1 i = K1.1 i := fun i h => by rw [e1]; funext k; exact (vup_o (by omega)).trans ((vup_o (by omega)).trans (vup_o (by omega)))
  have A2 : ∀ i, i ≠ b → M2.1 i = K2.1 i := fun i h => by
    rw [e2]; funext k; dsimp only; (repeat (refine (vup_o (by omega)).trans ?_)); rfl
  have S1 : ∀ i, a ≤ i → i < a + 10 → M1.1 i = M.1 i := fun i p q => (A1 i (by omega)).trans (h1.src (by decide) hd p q)
  have C7 : ∀ k, k ∈ [7, 5, 4, 3, 2, 1, 0] → ∀ j, j < xlen k → M2.1 (b + 1 + k) j = M.1 (a + 1 + k) j := fun k hk j hj => by
    have hk9 := (by decide : ∀ k, k ∈ [7, 5, 4, 3, 2, 1, 0] → k < 9 ∧ k ≠ 6 ∧ k ≠ 8) k hk
    rw [A2 _ (by omega), h2.2.2 _ (fun t ht => by have : t = 8 ∨ t = 6 := by simpa using ht
                                                  omega), A1 _ (by omega)]
    exact h1.2.1 k hk j hj
  have C2 : ∀ k, k ∈ [8, 6] → ∀ j, j < xlen k → M2.1 (b + 1 + k) j = M.1 (a + 1 + k) j := fun k hk j hj => by
    have hk9 := (by decide : ∀ k, k ∈ [8, 6] → k < 9) k hk
    rw [A2 _ (by omega), h2.2.1 k hk j hj, S1 _ (by omega) (by omega)]
  have B0 : ∀ k, k < 12 → M2.1 b k = M1.1 b k := fun k hk => by
    rw [e2]; dsimp only; (repeat (refine (vup_o (by omega)).trans ?_))
    rw [h2.2.2 b (fun t ht => by omega)]
  refine ⟨⟨?_, fun i p q => ?_⟩, fun s hs => ?_, ⟨fun p hp => ?_, fun k hk => ?_, fun m hm => ?_, fun m hm => ?_⟩, ⟨?_, ?_, ?_⟩, ⟨?_, ?_, ?_, ?_, ?_, ?_, ?_, fun q => ?_⟩, xs_sum hX⟩
  · rw [e2]; dsimp only; rw [h2.1, e1]; dsimp only; exact h1.1
  · rw [A2 i (by omega), h2.2.2 i (fun t ht => by have : t = 8 ∨ t = 6 := by simpa using ht
                                                  omega), A1 i (by omega), h1.2.2 i (fun t ht => by have : t < 9 := by revert t; decide
                                                                                                    omega)]
  · exact ⟨(C7 0 (by decide) s hs).trans (xs_man hX hs), (C7 1 (by decide) s hs).trans (xs_dem hX hs), (C7 2 (by decide) s hs).trans (xs_lea hX hs), (C7 3 (by decide) s hs).trans (xs_got hX hs), (C7 4 (by decide) s hs).trans (xs_cip hX hs)⟩
  · exact (C7 5 (by decide) p hp).trans (xs_off hX hp)
  · exact (C2 6 (by decide) k hk).trans (xs_set hX hk)
  · exact (C7 7 (by decide) m hm).trans (xs_pre hX hm)
  · exact (C2 8 (by decide) m hm).trans (xs_sb hX hm)
  · rw [B0 9 (by decide), e1]; dsimp only; (repeat (refine (vup_o (by omega)).trans ?_)); exact vup_s _ _ _ _
  · rw [B0 10 (by decide), e1]; dsimp only; (repeat (refine (vup_o (by omega)).trans ?_)); exact vup_s _ _ _ _
  · rw [B0 11 (by decide), e1]; dsimp only; (repeat (refine (vup_o (by omega)).trans ?_)); exact vup_s _ _ _ _
  · rw [e2]; dsimp only; (repeat (refine (vup_o (by omega)).trans ?_)); exact vup_s _ _ _ _
  · rw [e2]; dsimp only; (repeat (refine (vup_o (by omega)).trans ?_)); exact vup_s _ _ _ _
  · rw [e2]; dsimp only; (repeat (refine (vup_o (by omega)).trans ?_)); exact vup_s _ _ _ _
  · rw [e2]; dsimp only; (repeat (refine (vup_o (by omega)).trans ?_)); exact vup_s _ _ _ _
  · rw [e2]; dsimp only; (repeat (refine (vup_o (by omega)).trans ?_)); exact vup_s _ _ _ _
  · rw [e2]; dsimp only; (repeat (refine (vup_o (by omega)).trans ?_)); exact vup_s _ _ _ _
  · rw [e2]; dsimp only; (repeat (refine (vup_o (by omega)).trans ?_)); exact vup_s _ _ _ _
  · rw [e2]; dsimp only; (repeat (refine (vup_o (by omega)).trans ?_)); exact (vup_s _ _ _ _).trans (by rw [S1 a (by omega) (by omega)]; exact xs_sp hX q)
set_option maxRecDepth 100000 in
set_option maxHeartbeats 400000 in
theorem c_X3_copyState {l : Launch} {G : vGG} {M : Mem} {v : Sg} {a b : Nat} (ha : stB a) (hb : stB b) (hab : a ≠ b) (hLX : LayX M.2) (hX : XS a v M.1) (hI : sInv v) : Co l yX3_copyState cX3_copyState 2 none (rmo 2 39) G [aR (some a), aR (some b)] M (fun r M' => r = none ∧ fz b (b + 10) 1 0 M M' ∧ XS b v M'.1) := by
  refine Co.ofV (plainFor_of_name (by decide)) rfl rfl ?_
  intro x hxl hxR hlk hrt Q hQ
  have hd := ab_d ha hb hab
  show vO x Q G cX3_copyState RX3 0 [some (aR (some a)), some (aR (some b))] [] M
  refine v_aload_n 0 dX3_copyState_0 rfl rfl ?_
  refine v_ifnull dX3_copyState_1 ?_
  refine v_aload_n 1 dX3_copyState_4 rfl rfl ?_
  refine v_ifnull dX3_copyState_5 ?_
  refine v_aload_n 1 dX3_copyState_8 rfl rfl ?_
  refine v_aload_n 0 dX3_copyState_9 rfl rfl ?_
  refine oVm1 0 (c_X0_takeStops ha hb hab hLX hX hI) k0_X0_takeStops ki_X0_takeStops ml_X3_319 (st_o hb) (by decide) (vRo_of hxR (by decide) (by decide)) dX3_copyState_10 (Nat.le_of_ble_eq_true rfl) (fun N hN => ?_)
  obtain ⟨K1, hC1, e1⟩ := hN
  have hL1 : LayX N.2 := by rw [e1]; dsimp only; rw [hC1.1]; exact hLX
  have hX1 : XS a v N.1 := hX.keep (fun i h1 h2 => by rw [e1]; funext k; dsimp only; exact (vup_o (by omega)).trans ((vup_o (by omega)).trans ((vup_o (by omega)).trans (by rw [hC1.src (by decide) hd h1 h2])))) 
  refine v_aload_n 1 dX3_copyState_13 rfl rfl ?_
  refine v_aload_n 0 dX3_copyState_14 rfl rfl ?_
  refine oVm1 0 (c_X0_takeBellows ha hb hab hL1 hX1 hI) k0_X0_takeBellows ki_X0_takeBellows ml_X3_322 (st_o hb) (by decide) (vRo_of hxR (by decide) (by decide)) dX3_copyState_15 (Nat.le_of_ble_eq_true rfl) (fun N hN => ?_)
  obtain ⟨K2, hC2, e2⟩ := hN
  refine o_ret hQ hlk hrt dX3_copyState_18 ?_
  exact ⟨rfl, xs_copy hX hd hC1 e1 hC2 e2⟩
