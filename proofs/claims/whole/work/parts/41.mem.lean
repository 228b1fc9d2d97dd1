/-! the reference's loops over bytes -/
theorem my_cln {n : Nat} (h : n < 2 ^ 31) : (nI n).toNatClampNeg = n := nI_clamp h
theorem inb_nI {n N : Nat} (h : n < N) (hN : N < 2 ^ 31) : inb (nI n) N = true := by
  unfold inb
  rw [nI_toInt (by omega)]
  simp
  omega
theorem ld_go (u : St) (p k : Nat) (hk : p + k ≤ 4096) : ∀ (i n : Nat) (v : Int32), i ≤ k → k - i < n → f_D_load_b5 n (nI p) (nI k) v (nI i) u = some ((List.range' i (k - i)).foldl (fun v j => jn v (u 1 (p + j))) v) := by
  intro i n
  induction n generalizing i with
  | zero => intro v h1 h2; omega
  | succ n ih =>
    intro v h1 h2
    rw [f_D_load_b5_s]
    by_cases h : i = k
    · subst h
      rw [if_pos (nI_le (Nat.le_refl _) (by omega))]
      simp
    · have h3 : i < k := by omega
      rw [if_neg (nI_ge h3 (by omega))]
      rw [nI_add, inb_nI (by omega) (by omega), if_pos rfl, my_cln (by omega), nI_1]
      have e : k - i = (k - (i + 1)) + 1 := by omega
      rw [e, List.range'_succ, List.foldl_cons]
      exact ih (i + 1) _ (by omega) (by omega)
theorem ld_4 (u : St) (p : Nat) (hp : p + 4 ≤ 4096) : f_D_load (nI p) 4 u = some (w4 (u 1) p) := by
  unfold f_D_load
  exact ld_go u p 4 hp 0 fuel 0 (by omega) (by unfold fuel; omega)
theorem ld_2 (u : St) (p : Nat) (hp : p + 2 ≤ 4096) : f_D_load (nI p) 2 u = some (jn (jn 0 (u 1 p)) (u 1 (p + 1))) := by
  unfold f_D_load
  exact ld_go u p 2 hp 0 fuel 0 (by omega) (by unfold fuel; omega)
theorem ld_1 (u : St) (p : Nat) (hp : p + 1 ≤ 4096) : f_D_load (nI p) 1 u = some (jn 0 (u 1 p)) := by
  unfold f_D_load
  exact ld_go u p 1 hp 0 fuel 0 (by omega) (by unfold fuel; omega)
