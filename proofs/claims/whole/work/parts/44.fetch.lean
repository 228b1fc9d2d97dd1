/-! interrupts, addresses, the fetch -/
def uX (x : Int32) : Nat := x.toBitVec.toNat
theorem pl_eq (x : Int32) : x &&& (536870911 : Int32) = nI (uX x % 536870912) := pk_and x 29 (by decide)
theorem and3 (x : Int32) : x &&& (3 : Int32) = nI (uX x % 4) := pk_and x 2 (by decide)
theorem and3_0 (x : Int32) : x &&& (3 : Int32) = 0 ↔ uX x % 4 = 0 := by
  rw [and3, ← nI_0, nI_eq (by omega) (by omega)]
theorem isMem (x : Int32) : f_S_isInMemory (x &&& (536870911 : Int32)) = if uX x % 536870912 < 4096 then 1 else 0 := by
  rw [pl_eq]
  generalize hp : uX x % 536870912 = p
  have h1 : p < 536870912 := by omega
  unfold f_S_isInMemory
  rw [if_neg (nI_pos (by omega))]
  have e : (4096 : Int32) = nI 4096 := rfl
  rw [e]
  by_cases h : p < 4096
  · rw [if_neg (nI_ge h (by omega)), if_pos h]
  · rw [if_pos (nI_le (by omega) (by omega)), if_neg h]
theorem inMem (x : Int32) (n : Nat) (hn : n ≤ 4096) : f_D_inMemory x (nI n) = if uX x % 536870912 + n ≤ 4096 then 1 else 0 := by
  unfold f_D_inMemory
  rw [pl_eq]
  generalize hp : uX x % 536870912 = p
  have h1 : p < 536870912 := by omega
  have e : (4096 : Int32) - nI n = nI (4096 - n) := by
    rw [show (4096 : Int32) = nI 4096 from rfl, pk_sub hn]
  rw [e]
  by_cases h : p + n ≤ 4096
  · rw [if_neg (nI_nlt (by omega) (by omega)), if_pos h]
  · rw [if_pos (nI_lt (by omega) (by omega)), if_neg h]
theorem user_bits (s : Int32) : s &&& (2 : Int32) = 0 ↔ ¬ (s >>> ((1 : Int32) &&& 31)) &&& (1 : Int32) = 1 := by
  have h1 : s &&& (2 : Int32) = 0 ↔ bt s 1 = false := by
    rw [b_zero]
    constructor
    · intro h
      have h2 := h 1 (by omega)
      rw [b_and, bc_2 1 (by omega)] at h2
      simpa using h2
    · intro h i hi
      rw [b_and, bc_2 i hi]
      by_cases e : i = 1
      · subst e; simp [h]
      · simp [e]
  have h2 : (s >>> ((1 : Int32) &&& 31)) &&& (1 : Int32) = 0 ↔ bt s 1 = false := by
    rw [b_zero]
    constructor
    · intro h
      have h2 := h 0 (by omega)
      rw [b_and, bc_1 0 (by omega), b_sshr1 _ (by omega)] at h2
      simpa using h2
    · intro h i hi
      rw [b_and, bc_1 i hi, b_sshr1 _ hi]
      by_cases e : i = 0
      · subst e; simp [h]
      · simp [e]
  rw [h1, ← h2]
  rcases and1 (s >>> ((1 : Int32) &&& 31)) with h | h
  · rw [h]; decide
  · rw [h]; decide
theorem user_eq (a b : St) (h : a 5 0 = b 0 5) : (zb (f_C_isUser a) = 0) ↔ (zb (f_D_user b) = 0) := by
  unfold f_C_isUser f_D_user
  rw [h]
  by_cases h1 : (b 0 5) &&& (2 : Int32) = 0
  · rw [if_pos h1, if_neg ((user_bits _).mp h1)]
  · rw [if_neg h1, if_pos (by
      have := fun z => h1 ((user_bits _).mpr z)
      exact Decidable.byContradiction this)]
theorem forb_eq (a b : St) (x : Int32) (h : a 5 0 = b 0 5) : (zb (f_C_forbids x a) = 0) ↔ ((0 : Int32) ≤ x ∨ zb (f_D_user b) = 0) := by
  rw [← user_eq a b h]
  unfold f_C_forbids
  by_cases h1 : zb (f_C_isUser a) = 0
  · rw [if_pos h1]
    simp [zb_0, h1]
  · rw [if_neg h1]
    by_cases h2 : (0 : Int32) ≤ x
    · rw [if_pos h2]; simp [zb_0, h2]
    · rw [if_neg h2]; simp [zb_1, h1, h2]
theorem irq_eq (a b : St) (h : Rel a b) : (zb (f_C_interruptIsDue a) = 0) ↔ ¬ ((b 0 5) &&& (1 : Int32) = 1 ∧ ¬ (((f_D_cause b) >>> ((8 : Int32) &&& 31)) &&& ((b 0 5) >>> ((8 : Int32) &&& 31))) &&& (255 : Int32) = 0) := by
  have hc := cause_eq a b h
  obtain ⟨-, -, -, ⟨c1, c2, c3, c4⟩, -, -⟩ := h
  unfold f_C_interruptIsDue
  rw [hc, c1]
  rcases and1 (b 0 5) with h1 | h1
  · rw [h1]; simp [zb_0]
  · rw [h1]
    have h2 := irq_bits (f_D_cause b) (b 0 5)
    by_cases h3 : (f_D_cause b &&& b 0 5) &&& (65280 : Int32) = 0
    · have h4 := h2.mp h3
      simp [h3, h4, zb_0]
    · have h4 : ¬ (((f_D_cause b) >>> ((8 : Int32) &&& 31)) &&& ((b 0 5) >>> ((8 : Int32) &&& 31))) &&& (255 : Int32) = 0 := fun z => h3 (h2.mpr z)
      simp [h3, h4, zb_1]
theorem sm4 : sm 64 (4 : Int32) := ⟨4, by omega, rfl⟩
theorem sm5 : sm 64 (5 : Int32) := ⟨5, by omega, rfl⟩
theorem sm6 : sm 64 (6 : Int32) := ⟨6, by omega, rfl⟩
theorem sm7 : sm 64 (7 : Int32) := ⟨7, by omega, rfl⟩
theorem sm8 : sm 64 (8 : Int32) := ⟨8, by omega, rfl⟩
theorem sm9 : sm 64 (9 : Int32) := ⟨9, by omega, rfl⟩
theorem sm10 : sm 64 (10 : Int32) := ⟨10, by omega, rfl⟩
theorem sm11 : sm 64 (11 : Int32) := ⟨11, by omega, rfl⟩
theorem sm12 : sm 64 (12 : Int32) := ⟨12, by omega, rfl⟩
theorem sm0 : sm 64 (0 : Int32) := ⟨0, by omega, rfl⟩
theorem rel_bad (a b : St) (x : Int32) (h : Rel a b) : Rel (sU a 5 4 x) (sU b 0 11 x) := by
  obtain ⟨⟨p1, p2, p3, p4, p5⟩, ⟨r1, r2⟩, ⟨w1, w2, w3⟩, ⟨c1, c2, c3, c4⟩, ⟨d1, d2, d3⟩, m1, m2⟩ := h
  simp only [Rel, sU_at, sU_fn]
  simp [*]
  exact ⟨r1, m1⟩
theorem rel_tick (a b : St) (h : Rel a b) : Rel (sU a 0 7 (a 0 7 + 1)) (sU b 0 15 (b 0 15 + 1)) := by
  obtain ⟨⟨p1, p2, p3, p4, p5⟩, ⟨r1, r2⟩, ⟨w1, w2, w3⟩, ⟨c1, c2, c3, c4⟩, ⟨d1, d2, d3⟩, m1, m2⟩ := h
  simp only [Rel, sU_at, sU_fn]
  simp [*]
  exact ⟨r1, m1⟩
/-- a fault's number, alike on both sides -/
def ftl (r : Int32) : Prop := sm 64 r ∧ (0 : Int32) < r ∧ ¬ r = (-1 : Int32) ∧ ¬ r = 0 ∧ ¬ r ≤ 0
theorem e_fetch (a b : St) (h : Rel a b) :
    (f_S_faultAtPc a = ((-1 : Int32), a) ∧ f_D_fetch b = ((0 : Int32), b) ∧ ∃ p, p + 4 ≤ 4096 ∧ p % 4 = 0 ∧ (b 0 3) &&& (536870911 : Int32) = nI p) ∨
    ∃ r a' b', ftl r ∧ f_S_faultAtPc a = (r, a') ∧ f_D_fetch b = (r, b') ∧ Rel a' b' := by
  have h0 := h
  obtain ⟨⟨p1, p2, p3, p4, p5⟩, -, -, ⟨c1, c2, c3, c4⟩, -, -⟩ := h
  have f4 : ftl 4 := ⟨sm4, by decide, by decide, by decide, by decide⟩
  have f6 : ftl 6 := ⟨sm6, by decide, by decide, by decide, by decide⟩
  have hB : Rel (sU a 5 4 (b 0 3)) (sU b 0 11 (b 0 3)) := rel_bad a b _ h0
  unfold f_S_faultAtPc f_D_fetch f_S_faultAtPc_b23 f_D_fetch_b23 f_D_fetch_b33
  rw [p1]
  by_cases h1 : (b 0 3) &&& (3 : Int32) = 0
  · rw [if_pos h1, if_pos h1]
    have hm := isMem (b 0 3)
    have hn := inMem (b 0 3) 4 (by omega)
    have e4 : (4 : Int32) = nI 4 := rfl
    rw [← e4] at hn
    have h4 := (and3_0 (b 0 3)).mp h1
    have hp := pl_eq (b 0 3)
    by_cases h2 : (0 : Int32) ≤ b 0 3 ∨ zb (f_D_user b) = 0
    · rw [if_pos ((forb_eq a b _ c1).mpr h2)]
      have e5 : (if (0 : Int32) ≤ b 0 3 then (if zb (f_D_inMemory (b 0 3) (4 : Int32)) = 0 then ((6 : Int32), b) else ((0 : Int32), b)) else if zb (f_D_user b) = 0 then (if zb (f_D_inMemory (b 0 3) (4 : Int32)) = 0 then ((6 : Int32), b) else ((0 : Int32), b)) else ((4 : Int32), sU b 0 11 (b 0 3))) = (if zb (f_D_inMemory (b 0 3) (4 : Int32)) = 0 then ((6 : Int32), b) else ((0 : Int32), b)) := by
        by_cases h3 : (0 : Int32) ≤ b 0 3
        · rw [if_pos h3]
        · rw [if_neg h3, if_pos (h2.resolve_left h3)]
      rw [e5, hm, hn]
      by_cases h5 : uX (b 0 3) % 536870912 < 4096
      · left
        have h6 : uX (b 0 3) % 536870912 + 4 ≤ 4096 := by omega
        rw [if_pos h5, if_pos h6]
        refine ⟨rfl, rfl, _, h6, by omega, hp⟩
      · right
        have h6 : ¬ uX (b 0 3) % 536870912 + 4 ≤ 4096 := by omega
        rw [if_neg h5, if_neg h6]
        exact ⟨_, _, _, f6, rfl, rfl, h0⟩
    · right
      rw [if_neg (fun z => h2 ((forb_eq a b _ c1).mp z)), if_neg (fun z => h2 (Or.inl z)), if_neg (fun z => h2 (Or.inr z))]
      exact ⟨_, _, _, f4, rfl, rfl, hB⟩
  · right
    rw [if_neg h1, if_neg h1]
    exact ⟨_, _, _, f4, rfl, rfl, hB⟩
