theorem fr_gives (q : Nat) (hq : q = 0 ∨ q = 16) (x : Int32) (v : Int32) (u : St) : f_D_gives x v u 0 q = u 0 q := by
  rcases hq with rfl | rfl <;> simp only [f_D_gives, bnv] <;> (repeat' split) <;> simp [sU_at]
theorem fr_multiply (q : Nat) (hq : q = 0 ∨ q = 16) (x : Int32) (u : St) : f_D_multiply x u 0 q = u 0 q := by
  rcases hq with rfl | rfl <;> simp only [f_D_multiply, f_D_multiply_b21, f_D_multiply_b43, bnv] <;> (repeat' split) <;> simp [sU_at]
theorem fr_shifts (q : Nat) (hq : q = 0 ∨ q = 16) (x : Int32) (u : St) : f_D_shifts x u 0 q = u 0 q := by
  rcases hq with rfl | rfl <;> simp only [f_D_shifts, f_D_shifts_b28, f_D_shifts_b74, f_D_gives, bnv] <;> (repeat' split) <;> simp [sU_at]
theorem fr_branch_b232 (q : Nat) (hq : q = 0 ∨ q = 16) (u : St) : f_D_branch_b232 u 0 q = u 0 q := by
  unfold f_D_branch_b232 bnv
  exact fr_gives q hq _ _ _
theorem fr_branch_b210 (q : Nat) (hq : q = 0 ∨ q = 16) (x : Int32) (u : St) : f_D_branch_b210 x u 0 q = u 0 q := by
  unfold f_D_branch_b210
  split
  · exact fr_branch_b232 q hq u
  · split
    · split
      · rfl
      · exact fr_branch_b232 q hq u
    · rfl
theorem fr_26 (q : Nat) (hq : q = 0 ∨ q = 16) (u : St) (v : Int32) : sU u 0 26 v 0 q = u 0 q := by
  rcases hq with rfl | rfl <;> simp [sU_at]
theorem fr_branch_b189 (q : Nat) (hq : q = 0 ∨ q = 16) (x : Int32) (y : Int32) (u : St) : f_D_branch_b189 x y u 0 q = u 0 q := by
  unfold f_D_branch_b189
  split
  · exact fr_branch_b210 q hq x u
  · rw [fr_branch_b210 q hq, fr_26 q hq]
theorem fr_branch_b146 (q : Nat) (hq : q = 0 ∨ q = 16) (x : Int32) (y : Int32) (u : St) : f_D_branch_b146 x y u 0 q = u 0 q := by
  unfold f_D_branch_b146
  split
  · exact fr_branch_b189 q hq x y u
  · split
    · exact fr_branch_b189 q hq x y u
    · rw [fr_branch_b210 q hq, fr_26 q hq]
theorem fr_branch (q : Nat) (hq : q = 0 ∨ q = 16) (u : St) : f_D_branch u 0 q = u 0 q := by
  unfold f_D_branch
  split
  · split <;> exact fr_branch_b146 q hq _ _ u
  · split
    · split <;> exact fr_branch_b146 q hq _ _ u
    · split
      · split <;> exact fr_branch_b146 q hq _ _ u
      · split
        · split <;> exact fr_branch_b146 q hq _ _ u
        · split
          · split <;> exact fr_branch_b146 q hq _ _ u
          · split <;> exact fr_branch_b146 q hq _ _ u
theorem fr_byNumber (q : Nat) (hq : q = 0 ∨ q = 16) (u : St) : f_D_byNumber u 0 q = u 0 q := by
  rcases hq with rfl | rfl <;> simp only [f_D_byNumber, f_D_byNumber_b64, f_D_byNumber_b99, f_D_byNumber_b126, f_D_gives, bnv] <;> (repeat' split) <;> simp [sU_at]
theorem fr_control (q : Nat) (hq : q = 0 ∨ q = 16) (u : St) : f_D_control u 0 q = u 0 q := by
  rcases hq with rfl | rfl <;> simp only [f_D_control, bnv] <;> (repeat' split) <;> simp [sU_at]
theorem fr_fetch (q : Nat) (hq : q = 0 ∨ q = 16) (u : St) : (f_D_fetch u).2 0 q = u 0 q := by
  rcases hq with rfl | rfl <;> simp only [f_D_fetch, f_D_fetch_b23, f_D_fetch_b33, bnd] <;> (repeat' split) <;> simp [sU_at]
theorem fr_addressTrouble (q : Nat) (hq : q = 0 ∨ q = 16) (u : St) : (f_D_addressTrouble u).2 0 q = u 0 q := by
  rcases hq with rfl | rfl <;> simp only [f_D_addressTrouble, f_D_addressTrouble_b25, f_D_addressTrouble_b45, f_D_addressTrouble_b65, f_D_addressTrouble_b80, bnd] <;> (repeat' split) <;> simp [sU_at]
theorem fr_trouble_b88 (q : Nat) (hq : q = 0 ∨ q = 16) (y : Int32) (u : St) : (f_D_trouble_b88 y u).2 0 q = u 0 q := by
  unfold f_D_trouble_b88
  (repeat' split) <;> rfl
theorem fr_trouble_b57 (q : Nat) (hq : q = 0 ∨ q = 16) (u : St) : (f_D_trouble_b57 u).2 0 q = u 0 q := by
  unfold f_D_trouble_b57 f_D_trouble_b83 f_D_trouble_b87
  split
  · split <;> exact fr_trouble_b88 q hq _ u
  · exact fr_trouble_b88 q hq _ u
theorem fr_trouble_b24 (q : Nat) (hq : q = 0 ∨ q = 16) (u : St) : (f_D_trouble_b24 u).2 0 q = u 0 q := by
  unfold f_D_trouble_b24 f_D_trouble_b83
  split
  · split
    · split
      · exact fr_trouble_b88 q hq _ u
      · exact fr_trouble_b57 q hq u
    · exact fr_trouble_b57 q hq u
  · split
    · split <;> rfl
    · split
      · split <;> rfl
      · split
        · rfl
        · exact fr_addressTrouble q hq u
theorem fr_trouble (q : Nat) (hq : q = 0 ∨ q = 16) (u : St) : (f_D_trouble u).2 0 q = u 0 q := by
  unfold f_D_trouble
  split
  · rfl
  · split
    · exact fr_trouble_b24 q hq u
    · split
      · exact fr_trouble_b24 q hq u
      · rfl
theorem fr_settle (q : Nat) (hq : q = 0 ∨ q = 16) (u u' : St) (h : f_D_settle u = some u') : u' 0 q = u 0 q := by
  unfold f_D_settle f_D_settle_b20 at h
  (repeat' split at h) <;> first | (cases h; done) | (cases Option.some.inj h; rcases hq with rfl | rfl <;> simp [sU_at])
theorem fr_store_b3 (q : Nat) (hq : q = 0 ∨ q = 16) (x y v : Int32) : ∀ (n : Nat) (i : Int32) (u u' : St), f_D_store_b3 n x y v i u = some u' → u' 0 q = u 0 q := by
  intro n
  induction n with
  | zero => intro i u u' h; cases h
  | succ n ih =>
    intro i u u' h
    rw [f_D_store_b3_s] at h
    split at h
    · cases Option.some.inj h; rfl
    · split at h
      · have h2 := ih _ _ _ h
        rw [h2]
        simp only [sU_at]; simp
      · cases h
theorem fr_store (q : Nat) (hq : q = 0 ∨ q = 16) (x y v : Int32) (u u' : St) (h : f_D_store x y v u = some u') : u' 0 q = u 0 q := fr_store_b3 q hq x y v fuel 0 u u' h
theorem fr_divide (q : Nat) (hq : q = 0 ∨ q = 16) (x : Int32) (u u' : St) (h : f_D_divide x u = some u') : u' 0 q = u 0 q := by
  unfold f_D_divide f_D_divide_b28 f_D_divide_b29 f_D_divide_b63 f_D_divide_b85 at h
  (repeat' split at h) <;> first | (cases h; done) | (cases Option.some.inj h; rcases hq with rfl | rfl <;> simp [sU_at])
theorem fr_read (q : Nat) (hq : q = 0 ∨ q = 16) (u u' : St) (h : f_D_read u = some u') : u' 0 q = u 0 q := by
  unfold f_D_read at h
  obtain ⟨r, h1, h⟩ := obv_i h
  simp only [bnv] at h
  cases Option.some.inj h
  rcases hq with rfl | rfl <;> simp [sU_at]
theorem fr_part_b88 (q : Nat) (hq : q = 0 ∨ q = 16) (x2 x3 x4 x5 x6 y0 : Int32) (u u' : St) (h : f_D_part_b88 x2 x3 x4 x5 x6 y0 u = some u') : u' 0 q = u 0 q := by
  unfold f_D_part_b88 at h
  split at h
  · split at h <;> (cases Option.some.inj h; rcases hq with rfl | rfl <;> simp [sU_at])
  · split at h
    · split at h <;> (cases Option.some.inj h; rcases hq with rfl | rfl <;> simp [sU_at])
    · split at h
      · obtain ⟨z, h1, h⟩ := obv_i h
        cases Option.some.inj h
        exact fr_store q hq _ _ _ _ _ h1
      · obtain ⟨z, h1, h⟩ := obv_i h
        cases Option.some.inj h
        exact fr_store q hq _ _ _ _ _ h1
theorem fr_part_b45 (q : Nat) (hq : q = 0 ∨ q = 16) (x2 x3 x4 y0 : Int32) (u u' : St) (h : f_D_part_b45 x2 x3 x4 y0 u = some u') : u' 0 q = u 0 q := by
  unfold f_D_part_b45 f_D_part_b73 at h
  obtain ⟨z, h1, h⟩ := obv_i h
  (repeat' split at h) <;> exact fr_part_b88 q hq _ _ _ _ _ _ _ _ h
theorem fr_part (q : Nat) (hq : q = 0 ∨ q = 16) (x : Int32) (u u' : St) (h : f_D_part x u = some u') : u' 0 q = u 0 q := by
  unfold f_D_part at h
  split at h
  · exact fr_part_b45 q hq _ _ _ _ _ _ h
  · split at h
    · exact fr_part_b45 q hq _ _ _ _ _ _ h
    · cases h
theorem fr_memory (q : Nat) (hq : q = 0 ∨ q = 16) (u u' : St) (h : f_D_memory u = some u') : u' 0 q = u 0 q := by
  unfold f_D_memory at h
  split at h
  · split at h
    · obtain ⟨z, h1, h⟩ := obv_i h
      (repeat' split at h) <;> (cases Option.some.inj h; rcases hq with rfl | rfl <;> simp [sU_at])
    · obtain ⟨z, h1, h⟩ := obv_i h
      cases Option.some.inj h
      exact fr_store q hq _ _ _ _ _ h1
  · obtain ⟨z, h1, h⟩ := obv_i h
    cases Option.some.inj h
    exact fr_part q hq _ _ _ h1
theorem fr_byRegisters_b172 (q : Nat) (hq : q = 0 ∨ q = 16) (x : Int32) (u u' : St) (h : f_D_byRegisters_b172 x u = some u') : u' 0 q = u 0 q := by
  unfold f_D_byRegisters_b172 at h
  split at h
  · cases Option.some.inj h
    show f_D_gives _ _ _ 0 q = _
    rw [fr_gives q hq, fr_26 q hq]
  · cases Option.some.inj h
    exact fr_26 q hq _ _
theorem fr_byRegisters_b226 (q : Nat) (hq : q = 0 ∨ q = 16) (y : Int32) (z : Int32) (u u' : St) (h : f_D_byRegisters_b226 y z u = some u') : u' 0 q = u 0 q := by
  unfold f_D_byRegisters_b226 at h
  split at h
  · cases Option.some.inj h
    exact fr_gives q hq _ _ _
  · cases h
theorem fr_byRegisters_b204 (q : Nat) (hq : q = 0 ∨ q = 16) (x : Int32) (u u' : St) (h : f_D_byRegisters_b204 x u = some u') : u' 0 q = u 0 q := by
  unfold f_D_byRegisters_b204 at h
  split at h <;> exact fr_byRegisters_b226 q hq _ _ _ _ h
theorem fr_byRegisters_b253 (q : Nat) (hq : q = 0 ∨ q = 16) (y : Int32) (u u' : St) (h : f_D_byRegisters_b253 y u = some u') : u' 0 q = u 0 q := by
  unfold f_D_byRegisters_b253 at h
  split at h
  · cases Option.some.inj h
    simp only [sU_at]; simp
  · cases h
theorem fr_byRegisters_b233 (q : Nat) (hq : q = 0 ∨ q = 16) (u u' : St) (h : f_D_byRegisters_b233 u = some u') : u' 0 q = u 0 q := by
  unfold f_D_byRegisters_b233 at h
  split at h <;> exact fr_byRegisters_b253 q hq _ _ _ h
theorem fr_byRegisters_b276 (q : Nat) (hq : q = 0 ∨ q = 16) (y : Int32) (u u' : St) (h : f_D_byRegisters_b276 y u = some u') : u' 0 q = u 0 q := by
  unfold f_D_byRegisters_b276 at h
  cases Option.some.inj h
  exact fr_multiply q hq _ _
theorem fr_byRegisters_b261 (q : Nat) (hq : q = 0 ∨ q = 16) (u u' : St) (h : f_D_byRegisters_b261 u = some u') : u' 0 q = u 0 q := by
  unfold f_D_byRegisters_b261 at h
  split at h <;> exact fr_byRegisters_b276 q hq _ _ _ h
theorem fr_byRegisters_b297 (q : Nat) (hq : q = 0 ∨ q = 16) (y : Int32) (u u' : St) (h : f_D_byRegisters_b297 y u = some u') : u' 0 q = u 0 q := by
  unfold f_D_byRegisters_b297 at h
  obtain ⟨z, h1, h⟩ := obv_i h
  cases Option.some.inj h
  exact fr_divide q hq _ _ _ h1
theorem fr_byRegisters_b282 (q : Nat) (hq : q = 0 ∨ q = 16) (u u' : St) (h : f_D_byRegisters_b282 u = some u') : u' 0 q = u 0 q := by
  unfold f_D_byRegisters_b282 at h
  split at h <;> exact fr_byRegisters_b297 q hq _ _ _ h
theorem fr_byRegisters_b303 (q : Nat) (hq : q = 0 ∨ q = 16) (x : Int32) (u u' : St) (h : f_D_byRegisters_b303 x u = some u') : u' 0 q = u 0 q := by
  unfold f_D_byRegisters_b303 at h
  cases Option.some.inj h
  exact fr_gives q hq _ _ _
theorem fr_byRegisters_b320 (q : Nat) (hq : q = 0 ∨ q = 16) (x : Int32) (u u' : St) (h : f_D_byRegisters_b320 x u = some u') : u' 0 q = u 0 q := by
  unfold f_D_byRegisters_b320 at h
  cases Option.some.inj h
  exact fr_gives q hq _ _ _
theorem fr_byRegisters_b425 (q : Nat) (hq : q = 0 ∨ q = 16) (y : Int32) (z : Int32) (u u' : St) (h : f_D_byRegisters_b425 y z u = some u') : u' 0 q = u 0 q := by
  unfold f_D_byRegisters_b425 at h
  cases Option.some.inj h
  exact fr_gives q hq _ _ _
theorem fr_byRegisters_b452 (q : Nat) (hq : q = 0 ∨ q = 16) (y : Int32) (z : Int32) (u u' : St) (h : f_D_byRegisters_b452 y z u = some u') : u' 0 q = u 0 q := by
  unfold f_D_byRegisters_b452 at h
  cases Option.some.inj h
  exact fr_gives q hq _ _ _
theorem fr_byRegisters_b458 (q : Nat) (hq : q = 0 ∨ q = 16) (x : Int32) (u u' : St) (h : f_D_byRegisters_b458 x u = some u') : u' 0 q = u 0 q := by
  unfold f_D_byRegisters_b458 at h
  cases Option.some.inj h
  exact fr_shifts q hq _ _
theorem fr_byRegisters (q : Nat) (hq : q = 0 ∨ q = 16) (u u' : St) (h : f_D_byRegisters u = some u') : u' 0 q = u 0 q := by
  unfold f_D_byRegisters at h
  rcases my_em (x := u 0 21) (8 : Int32) with e | e
  · rw [if_pos e] at h; exact fr_byRegisters_b172 q hq _ _ _ h
  rw [if_neg e] at h
  rcases my_em (x := u 0 21) (9 : Int32) with e | e
  · rw [if_pos e] at h; exact fr_byRegisters_b172 q hq _ _ _ h
  rw [if_neg e] at h
  rcases my_em (x := u 0 21) (16 : Int32) with e | e
  · rw [if_pos e] at h; exact fr_byRegisters_b204 q hq _ _ _ h
  rw [if_neg e] at h
  rcases my_em (x := u 0 21) (17 : Int32) with e | e
  · rw [if_pos e] at h; exact fr_byRegisters_b233 q hq _ _ h
  rw [if_neg e] at h
  rcases my_em (x := u 0 21) (18 : Int32) with e | e
  · rw [if_pos e] at h; exact fr_byRegisters_b204 q hq _ _ _ h
  rw [if_neg e] at h
  rcases my_em (x := u 0 21) (19 : Int32) with e | e
  · rw [if_pos e] at h; exact fr_byRegisters_b233 q hq _ _ h
  rw [if_neg e] at h
  rcases my_em (x := u 0 21) (24 : Int32) with e | e
  · rw [if_pos e] at h; exact fr_byRegisters_b261 q hq _ _ h
  rw [if_neg e] at h
  rcases my_em (x := u 0 21) (25 : Int32) with e | e
  · rw [if_pos e] at h; exact fr_byRegisters_b261 q hq _ _ h
  rw [if_neg e] at h
  rcases my_em (x := u 0 21) (26 : Int32) with e | e
  · rw [if_pos e] at h; exact fr_byRegisters_b282 q hq _ _ h
  rw [if_neg e] at h
  rcases my_em (x := u 0 21) (27 : Int32) with e | e
  · rw [if_pos e] at h; exact fr_byRegisters_b282 q hq _ _ h
  rw [if_neg e] at h
  rcases my_em (x := u 0 21) (32 : Int32) with e | e
  · rw [if_pos e] at h; exact fr_byRegisters_b303 q hq _ _ _ h
  rw [if_neg e] at h
  rcases my_em (x := u 0 21) (33 : Int32) with e | e
  · rw [if_pos e] at h; exact fr_byRegisters_b303 q hq _ _ _ h
  rw [if_neg e] at h
  rcases my_em (x := u 0 21) (34 : Int32) with e | e
  · rw [if_pos e] at h; exact fr_byRegisters_b320 q hq _ _ _ h
  rw [if_neg e] at h
  rcases my_em (x := u 0 21) (35 : Int32) with e | e
  · rw [if_pos e] at h; exact fr_byRegisters_b320 q hq _ _ _ h
  rw [if_neg e] at h
  rcases my_em (x := u 0 21) (36 : Int32) with e | e
  · rw [if_pos e] at h; cases Option.some.inj h; exact fr_gives q hq _ _ _
  rw [if_neg e] at h
  rcases my_em (x := u 0 21) (37 : Int32) with e | e
  · rw [if_pos e] at h; cases Option.some.inj h; exact fr_gives q hq _ _ _
  rw [if_neg e] at h
  rcases my_em (x := u 0 21) (38 : Int32) with e | e
  · rw [if_pos e] at h; cases Option.some.inj h; exact fr_gives q hq _ _ _
  rw [if_neg e] at h
  rcases my_em (x := u 0 21) (39 : Int32) with e | e
  · rw [if_pos e] at h; cases Option.some.inj h; exact fr_gives q hq _ _ _
  rw [if_neg e] at h
  rcases my_em (x := u 0 21) (42 : Int32) with e | e
  · rw [if_pos e] at h; split at h <;> exact fr_byRegisters_b425 q hq _ _ _ _ h
  rw [if_neg e] at h
  rcases my_em (x := u 0 21) (43 : Int32) with e | e
  · rw [if_pos e] at h; split at h <;> exact fr_byRegisters_b452 q hq _ _ _ _ h
  rw [if_neg e] at h
  exact fr_byRegisters_b458 q hq _ _ _ h
theorem fr_act (q : Nat) (hq : q = 0 ∨ q = 16) (u u' : St) (h : f_D_act u = some u') : u' 0 q = u 0 q := by
  unfold f_D_act at h
  simp only [bnv] at h
  (repeat' split at h) <;> first
    | (obtain ⟨z, h1, h⟩ := obv_i h; cases Option.some.inj h; exact fr_byRegisters q hq _ _ h1)
    | (obtain ⟨z, h1, h⟩ := obv_i h; cases Option.some.inj h; exact fr_memory q hq _ _ h1)
    | (cases Option.some.inj h; exact fr_control q hq _)
    | (cases Option.some.inj h; exact fr_byNumber q hq _)
    | (cases Option.some.inj h; exact fr_branch q hq _)
theorem fr_except (c : Int32) (u u' : St) (h : f_D_except c u = some u') : u' 0 0 = u 0 0 ∧ u' 0 16 = u 0 16 + 1 := by
  unfold f_D_except f_D_except_b21 at h
  split at h
  · obtain ⟨z, h1, h⟩ := obv_i h
    cases Option.some.inj h
    rw [fr_settle 0 (Or.inl rfl) _ _ h1, fr_settle 16 (Or.inr rfl) _ _ h1]
    simp [sU_at]
  · obtain ⟨z, h1, h⟩ := obv_i h
    cases Option.some.inj h
    rw [fr_settle 0 (Or.inl rfl) _ _ h1, fr_settle 16 (Or.inr rfl) _ _ h1]
    simp [sU_at]
/-- what a step answers, and what it does to 'thrown' and to the count of exceptions -/
def StepFr (r : Int32) (u u' : St) : Prop := u' 0 0 = u 0 0 ∧ ((r = 0 ∧ u' 0 16 = u 0 16) ∨ ((r = 1 ∨ r = 2) ∧ u' 0 16 = u 0 16 + 1))
theorem fr_b106 (u u' : St) (r : Int32) (h : f_D_oneStep_b106 u = some (r, u')) : r = 0 ∧ u' 0 0 = u 0 0 ∧ u' 0 16 = u 0 16 := by
  unfold f_D_oneStep_b106 at h
  obtain ⟨rfl, rfl⟩ := Prod.mk.inj (Option.some.inj h)
  simp [sU_at]
theorem fr_b67 (x r : Int32) (u u' : St) (h : f_D_oneStep_b67 x u = some (r, u')) : StepFr r u u' := by
  unfold f_D_oneStep_b67 at h
  split at h
  · obtain ⟨z, h1, h⟩ := obv_i h
    obtain ⟨y, h2, h⟩ := obv_i h
    have a0 := fr_act 0 (Or.inl rfl) _ _ h1
    have a1 := fr_act 16 (Or.inr rfl) _ _ h1
    have s0 := fr_settle 0 (Or.inl rfl) _ _ h2
    have s1 := fr_settle 16 (Or.inr rfl) _ _ h2
    split at h
    · obtain ⟨e1, e2, e3⟩ := fr_b106 _ _ _ h
      exact ⟨by rw [e2, s0, a0], Or.inl ⟨e1, by rw [e3, s1, a1]⟩⟩
    · split at h
      · obtain ⟨e1, e2, e3⟩ := fr_b106 _ _ _ h
        refine ⟨?_, Or.inl ⟨e1, ?_⟩⟩
        · rw [e2, ← a0, ← s0]; simp [sU_at]
        · rw [e3, ← a1, ← s1]; simp [sU_at]
      · cases h
  · obtain ⟨z, h1, h⟩ := obv_i h
    obtain ⟨rfl, rfl⟩ := Prod.mk.inj (Option.some.inj h)
    obtain ⟨e1, e2⟩ := fr_except _ _ _ h1
    exact ⟨e1, Or.inr ⟨Or.inl rfl, e2⟩⟩
theorem fr_b49 (r : Int32) (u u' : St) (h : f_D_oneStep_b49 u = some (r, u')) : StepFr r u u' := by
  unfold f_D_oneStep_b49 at h
  have g0 := fr_fetch 0 (Or.inl rfl) u
  have g1 := fr_fetch 16 (Or.inr rfl) u
  simp only [bnd] at h
  split at h
  · obtain ⟨z, h1, h⟩ := obv_i h
    have t0 := fr_trouble 0 (Or.inl rfl) z
    have t1 := fr_trouble 16 (Or.inr rfl) z
    have r0 := fr_read 0 (Or.inl rfl) _ _ h1
    have r1 := fr_read 16 (Or.inr rfl) _ _ h1
    have hs := fr_b67 _ _ _ _ h
    unfold StepFr at hs ⊢
    rw [t0, t1, r0, r1, g0, g1] at hs
    exact hs
  · have hs := fr_b67 _ _ _ _ h
    unfold StepFr at hs ⊢
    rw [g0, g1] at hs
    exact hs
theorem fr_oneStep (r : Int32) (u u' : St) (h : f_D_oneStep u = some (r, u')) : StepFr r u u' := by
  unfold f_D_oneStep at h
  have e0 : sU u 0 15 (u 0 15 + 1) 0 0 = u 0 0 := by simp [sU_at]
  have e1 : sU u 0 15 (u 0 15 + 1) 0 16 = u 0 16 := by simp [sU_at]
  have key : ∀ z, StepFr r (sU u 0 15 (u 0 15 + 1)) z → StepFr r u z := fun z hz => by
    unfold StepFr at hz ⊢
    rw [e0, e1] at hz
    exact hz
  split at h
  · split at h
    · exact key _ (fr_b49 _ _ _ h)
    · obtain ⟨z, h1, h⟩ := obv_i h
      obtain ⟨rfl, rfl⟩ := Prod.mk.inj (Option.some.inj h)
      obtain ⟨g1, g2⟩ := fr_except _ _ _ h1
      exact key _ ⟨g1, Or.inr ⟨Or.inr rfl, g2⟩⟩
  · exact key _ (fr_b49 _ _ _ h)
theorem i32_add1 (x y : Int32) : (x + 1) - y = (x - y) + 1 := by
  apply Int32.toBitVec_inj.mp
  simp only [Int32.toBitVec_sub, Int32.toBitVec_add]
  apply BitVec.eq_of_toNat_eq
  simp only [BitVec.toNat_sub, BitVec.toNat_add]
  omega
theorem run_go (N : Nat) (hN : N < 2 ^ 31) (y : Int32) : ∀ (i n m : Nat) (a b : St) (al : Int32), i ≤ N → N - i < n → N - i < m → Rel a b → a 0 8 - y = al →
    ∃ r a' b', f_S_run_b26 n (nI N) y (nI i) a = some (some (r, a')) ∧ f_D_run_b29 m (nI N) al (nI i) b = some (r, b') ∧ Rel a' b' ∧ b' 0 0 = b 0 0 := by
  intro i n
  induction n generalizing i with
  | zero => intro m a b al h1 h2; omega
  | succ n ih =>
    intro m a b al h1 h2 h3 hR hal
    cases m with
    | zero => omega
    | succ m =>
      rw [f_S_run_b26_s, f_D_run_b29_s]
      by_cases h : i = N
      · subst h
        rw [if_pos (nI_le (Nat.le_refl _) (by omega)), if_pos (nI_le (Nat.le_refl _) (by omega)), hal]
        exact ⟨_, _, _, rfl, rfl, hR, rfl⟩
      · have h4 : i < N := by omega
        rw [if_neg (nI_ge h4 hN), if_neg (nI_ge h4 hN)]
        obtain ⟨r, a', b', g1, g2, g3⟩ := e_step a b hR
        have hf := fr_oneStep r b b' g2
        rw [g1, g2]
        simp only [bnd, obn]
        rw [nI_1]
        rcases hf.2 with ⟨rfl, e⟩ | ⟨hr, e⟩
        · rw [if_pos (by decide)]
          obtain ⟨r2, a2, b2, k1, k2, k3, k4⟩ := ih (i + 1) m a' b' al (by omega) (by omega) (by omega) g3 (by rw [g3.1.2.2.2.2, e, ← hR.1.2.2.2.2]; exact hal)
          exact ⟨r2, a2, b2, k1, k2, k3, by rw [k4, hf.1]⟩
        · rw [if_neg (by rcases hr with rfl | rfl <;> decide)]
          obtain ⟨r2, a2, b2, k1, k2, k3, k4⟩ := ih (i + 1) m a' b' (al + 1) (by omega) (by omega) (by omega) g3 (by rw [g3.1.2.2.2.2, e, ← hR.1.2.2.2.2, i32_add1, hal])
          exact ⟨r2, a2, b2, k1, k2, k3, by rw [k4, hf.1]⟩
theorem run_lim (x : Int32) : (5000 : Int32) < x ↔ ¬ x ≤ 5000 := by
  rw [Int32.le_iff_toInt_le, Int32.lt_iff_toInt_lt]
  omega
theorem i32_self (x : Int32) : x - x = 0 := by simp
theorem e_run (a b : St) (h : Rel a b) (x : Int32) : ∃ z, f_S_run x a = some z ∧ Op2 z a (f_D_run x b) := by
  unfold f_S_run f_D_run f_D_run_b16 f_D_run_b17 f_S_run_b11
  have bad : ∀ F : Int32 → St → Option (Int32 × St), (∀ u, F 0 u = some ((0 : Int32), u)) → Op2 none a (bnd (f_D_goes 0 b) F) := by
    intro F hF
    rw [goes_0]
    simp only [bnd]
    rw [hF]
    exact ⟨_, _, rfl, Or.inl ⟨rfl, sU00 _ _, rel_th a b _ h⟩⟩
  by_cases h1 : x < 0
  · rw [if_pos h1, if_pos h1]; exact ⟨_, rfl, bad _ (fun u => by rw [if_pos zb_0])⟩
  · rw [if_neg h1, if_neg h1]
    by_cases h2 : x ≤ 5000
    · rw [if_pos h2, if_neg (fun z => (run_lim x).mp z h2), goes_1]
      simp only [bnd]
      rw [if_neg (by decide)]
      obtain ⟨N, hN, rfl⟩ := nI_of h1
      have hN2 : N ≤ 5000 := by
        rcases Nat.lt_or_ge 5000 N with z | z
        · exact absurd h2 (nI_ge (a := 5000) (b := N) z hN)
        · exact z
      obtain ⟨r, a', b', g1, g2, g3, g4⟩ := run_go N hN (a 0 8) 0 fuel fuel a (sU b 0 0 0) 0 (by omega) (by unfold fuel; omega) (by unfold fuel; omega) (rel_th a b 0 h) (i32_self _)
      exact ⟨_, g1, r, b', g2, Or.inr ⟨a', rfl, by rw [g4, sU00], g3⟩⟩
    · rw [if_neg h2, if_pos ((run_lim x).mpr h2)]; exact ⟨_, rfl, bad _ (fun u => by rw [if_pos zb_0])⟩
