/-! ===== the twin: ticks ===== -/
section OG
variable {x : vXX} {Q : State → Prop} {G : vGG} {cc : ByteArray} {own : String} {pc : Nat} {ls : List (Option AV)} {st : List AV} {M : Mem}
theorem o_gw {L : List Nat} {M0 : Mem} {w : Sg} {j : Nat} {z : Int} (hF : fr L M0 M) (hL : 111 ∈ L) (hv : M.1 111 = w) (kk : ∀ K : Mem, fr L M0 K → K.1 111 = sup w j z → (∀ i, i ≠ 111 → K.1 i = M.1 i) → vO x Q G cc own pc ls st K) : vO x Q G cc own pc ls st (vup M.1 111 j z, M.2) := by
  obtain ⟨h1, h2⟩ := fr_gw hF hL hv j z
  exact kk _ h1 h2 (fun i hi => by funext b; exact vup_nid _ _ _ hi)
end OG
theorem sp_n {w : Sg} (h : ¬ w 22 = 1) (h0 : 0 ≤ w 23) : (w 23).tdiv (w 21) = sPart w := by rw [sPart, if_neg h, nu_tdiv h0]
theorem sp_y {w : Sg} (h : w 22 = 1) : w 20 = sPart w := by rw [sPart, if_pos h]
