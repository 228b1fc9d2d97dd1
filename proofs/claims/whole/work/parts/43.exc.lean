/-! bits of the status, the cause, addresses -/
theorem bc_63 : ∀ i, i < 32 → bt (63 : Int32) i = decide (i < 6) := by decide +kernel
theorem bc_n64 : ∀ i, i < 32 → bt (-64 : Int32) i = decide (6 ≤ i) := by decide +kernel
theorem bc_60 : ∀ i, i < 32 → bt (60 : Int32) i = (decide (2 ≤ i) && decide (i < 6)) := by decide +kernel
theorem bc_15 : ∀ i, i < 32 → bt (15 : Int32) i = decide (i < 4) := by decide +kernel
theorem bc_n16 : ∀ i, i < 32 → bt (-16 : Int32) i = decide (4 ≤ i) := by decide +kernel
theorem bc_768 : ∀ i, i < 32 → bt (768 : Int32) i = (decide (8 ≤ i) && decide (i < 10)) := by decide +kernel
theorem bc_3 : ∀ i, i < 32 → bt (3 : Int32) i = decide (i < 2) := by decide +kernel
theorem bc_1 : ∀ i, i < 32 → bt (1 : Int32) i = decide (i = 0) := by decide +kernel
theorem bc_2 : ∀ i, i < 32 → bt (2 : Int32) i = decide (i = 1) := by decide +kernel
theorem bc_min : ∀ i, i < 32 → bt (-2147483648 : Int32) i = decide (i = 31) := by decide +kernel
theorem bc_65280 : ∀ i, i < 32 → bt (65280 : Int32) i = (decide (8 ≤ i) && decide (i < 16)) := by decide +kernel
theorem b_shl2 (x : Int32) {i : Nat} (hi : i < 32) : bt (x <<< ((2 : Int32) &&& 31)) i = (decide (2 ≤ i) && bt x (i - 2)) := b_shl 2 (by omega) x hi
theorem b_shl10 (x : Int32) {i : Nat} (hi : i < 32) : bt (x <<< ((10 : Int32) &&& 31)) i = (decide (10 ≤ i) && bt x (i - 10)) := b_shl 10 (by omega) x hi
theorem b_sshr1 (x : Int32) {i : Nat} (hi : i < 32) : bt (x >>> ((1 : Int32) &&& 31)) i = if 1 + i < 32 then bt x (1 + i) else bt x 31 := b_sshr 1 (by omega) x hi
theorem b_sshr2 (x : Int32) {i : Nat} (hi : i < 32) : bt (x >>> ((2 : Int32) &&& 31)) i = if 2 + i < 32 then bt x (2 + i) else bt x 31 := b_sshr 2 (by omega) x hi
theorem b_zero {x : Int32} : x = 0 ↔ ∀ i, i < 32 → bt x i = false := by
  constructor
  · intro h i _
    rw [h, b_0]
  · intro h
    exact b_ext (fun i hi => by rw [h i hi, b_0])
theorem st_ent (s : Int32) : f_S_exchange s (s <<< ((2 : Int32) &&& 31)) (63 : Int32) = (s &&& (-64 : Int32)) ||| ((s <<< ((2 : Int32) &&& 31)) &&& (60 : Int32)) := by
  unfold f_S_exchange
  refine b_ext (fun i hi => ?_)
  simp only [b_or, b_and, b_xor, b_shl2 _ hi, bc_63 i hi, b_m1 i hi, bc_n64 i hi, bc_60 i hi]
  by_cases h1 : i < 6 <;> by_cases h2 : 2 ≤ i <;> simp [h1, h2] <;> omega
theorem st_lv (s : Int32) : f_S_exchange s (s >>> ((2 : Int32) &&& 31)) (15 : Int32) = (s &&& (-16 : Int32)) ||| ((s >>> ((2 : Int32) &&& 31)) &&& (15 : Int32)) := by
  unfold f_S_exchange
  refine b_ext (fun i hi => ?_)
  simp only [b_or, b_and, b_xor, bc_15 i hi, b_m1 i hi, bc_n16 i hi]
  by_cases h1 : i < 4 <;> simp [h1] <;> omega
theorem sm_bt {n k : Nat} {x : Int32} (h : sm n x) (hn : n ≤ 2 ^ k) (hk : k < 32) : ∀ i, k ≤ i → bt x i = false := by
  obtain ⟨j, hj, rfl⟩ := h
  intro i hi
  show (BitVec.ofNat 32 j).getLsbD i = false
  rw [BitVec.getLsbD_ofNat]
  have h1 : j < 2 ^ i := Nat.lt_of_lt_of_le (Nat.lt_of_lt_of_le hj hn) (Nat.pow_le_pow_right (by omega) hi)
  rw [Nat.testBit_lt_two_pow h1, Bool.and_false]
theorem co_and {c s : Int32} (h : Int32) (hc : sm 64 c) (hs : sm 4 s) : co c s h &&& (768 : Int32) = s <<< ((8 : Int32) &&& 31) := by
  unfold co
  refine b_ext (fun i hi => ?_)
  have e0 : bt (if zb h = 0 then (0 : Int32) else (-2147483648 : Int32)) i = (decide (i = 31) && !decide (zb h = 0)) := by
    by_cases hz : zb h = 0
    · simp [hz, b_0]
    · simp [hz, bc_min i hi]
  simp only [b_or, b_and, b_shl2 _ hi, b_shl8 _ hi, bc_768 i hi, e0]
  by_cases h1 : 8 ≤ i
  · by_cases h2 : i < 10
    · have h3 : ¬ i = 31 := by omega
      have h4 : bt c (i - 2) = false := sm_bt (k := 6) hc (by decide) (by decide) (i - 2) (by omega)
      simp [h1, h2, h3, h4]
    · have h4 : bt s (i - 8) = false := sm_bt (k := 2) hs (by decide) (by decide) (i - 8) (by omega)
      simp [h1, h2, h4]
  · simp [h1]
theorem or_c3 (x y z : Int32) : (x ||| y) ||| z = (x ||| z) ||| y := by
  refine b_ext (fun i hi => ?_)
  simp only [b_or]
  cases bt x i <;> cases bt y i <;> cases bt z i <;> rfl
theorem or_c2 (x y : Int32) : x ||| y = y ||| x := by
  refine b_ext (fun i hi => ?_)
  simp only [b_or]
  cases bt x i <;> cases bt y i <;> rfl
theorem cause_eq (a b : St) (h : Rel a b) : f_C_wholeCause a = f_D_cause b := by
  obtain ⟨-, -, -, ⟨c1, c2, c3, c4⟩, ⟨d1, d2, d3⟩, -⟩ := h
  unfold f_C_wholeCause f_D_cause
  rw [d1, c2]
  unfold co
  by_cases hz : zb (b 0 9) = 0
  · rw [if_pos hz, if_pos hz, or_c3]
  · rw [if_neg hz, if_neg hz, or_c3]
theorem and1 (x : Int32) : x &&& (1 : Int32) = 0 ∨ x &&& (1 : Int32) = 1 := by
  rcases Bool.eq_false_or_eq_true (bt x 0) with h | h
  · right
    refine b_ext (fun i hi => ?_)
    rw [b_and, bc_1 i hi]
    by_cases e : i = 0
    · subst e; simp [h]
    · simp [e]
  · left
    refine b_ext (fun i hi => ?_)
    rw [b_and, bc_1 i hi, b_0]
    by_cases e : i = 0
    · subst e; simp [h]
    · simp [e]
theorem irq_bits (x y : Int32) : (x &&& y) &&& (65280 : Int32) = 0 ↔ ((x >>> ((8 : Int32) &&& 31)) &&& (y >>> ((8 : Int32) &&& 31))) &&& (255 : Int32) = 0 := by
  rw [b_zero, b_zero]
  constructor
  · intro h i hi
    rw [b_and, b_and, b_sshr8 _ hi, b_sshr8 _ hi, b_255]
    by_cases h1 : i < 8
    · have h2 := h (8 + i) (by omega)
      rw [b_and, b_and, bc_65280 _ (by omega)] at h2
      have h3 : 8 + i < 32 := by omega
      have h4 : 8 + i < 16 := by omega
      simpa [h1, h3, h4] using h2
    · simp [h1]
  · intro h i hi
    rw [b_and, b_and, bc_65280 _ hi]
    by_cases h1 : 8 ≤ i
    · by_cases h2 : i < 16
      · have h3 := h (i - 8) (by omega)
        rw [b_and, b_and, b_sshr8 _ (by omega), b_sshr8 _ (by omega), b_255] at h3
        have h4 : 8 + (i - 8) < 32 := by omega
        have h5 : i - 8 < 8 := by omega
        have h6 : 8 + (i - 8) = i := by omega
        simpa [h1, h2, h4, h5, h6, hi] using h3
      · simp [h2]
    · simp [h1]
theorem e_except (a b : St) (c : Int32) (hc : sm 64 c) (h : Rel a b) : ∃ b', f_D_except c b = some b' ∧ Rel (f_S_enterException c a) b' := by
  have h0 := h
  obtain ⟨⟨p1, p2, p3, p4, p5⟩, ⟨r1, r2⟩, ⟨w1, w2, w3⟩, ⟨c1, c2, c3, c4⟩, ⟨d1, d2, d3⟩, m1, m2⟩ := h
  have m1' : (-1 : Int32).toInt < 32 := by decide
  have e1 : co (b 0 6) (b 0 7) (b 0 9) &&& (768 : Int32) = (b 0 7) <<< ((8 : Int32) &&& 31) := co_and _ d2 d3
  have e2 : ∀ x : St, ∀ y : Int32, (x 0 13).toInt < 32 → f_D_except_b21 c y x = some (stl (sU (sU (sU (sU (sU (sU (sU (sU x 0 10 y) 0 9 (x 0 12)) 0 6 c) 0 5 (((x 0 5) &&& (-64 : Int32)) ||| (((x 0 5) <<< ((2 : Int32) &&& 31)) &&& (60 : Int32)))) 0 3 (-2147483520 : Int32)) 0 4 ((-2147483520 : Int32) + (4 : Int32))) 0 12 (0 : Int32)) 0 16 ((x 0 16) + (1 : Int32)))) := by
    intro x y hx
    unfold f_D_except_b21
    rw [settle_eq _ (by simp only [sU_at]; simpa using hx)]
    rfl
  unfold f_D_except
  rw [e2 b _ w3, e2 b _ w3]
  by_cases hs : zb (b 0 12) = 0
  · rw [if_pos hs]
    refine ⟨_, rfl, ?_⟩
    by_cases hw : b 0 13 ≤ 0
    · simp only [f_S_enterException, f_S_enterException_b42, f_R_landLoad, f_R_dropLoad, f_R_holdLoad, f_R_change, f_C_enter, f_C_enter_b28, f_S_continueAt, bnv, stl, sU_at, w1, w2, p3, hs, hw, st_ent, reduceIte, Nat.reduceEqDiff]
      simp only [Rel, sU_at, sU_fn]
      simp [*]
      refine ⟨r1, ?_, m1⟩
      unfold co
      rw [if_pos hs, Int32.or_zero, or_c2]
    · have hc2 := clamp_pos hw
      have hn := nle34 (x := b 0 13) (by omega)
      simp only [f_S_enterException, f_S_enterException_b42, f_R_landLoad, f_R_dropLoad, f_R_holdLoad, f_R_change, f_C_enter, f_C_enter_b28, f_S_continueAt, bnv, stl, sU_at, w1, w2, p3, hs, hw, st_ent, reduceIte, Nat.reduceEqDiff, hn]
      simp only [Rel, sU_at, sU_fn]
      simp [*, upd]
      refine ⟨⟨fun j hj => by rw [r1 j hj], fun e => absurd e.symm hc2.2⟩, ?_, m1⟩
      unfold co
      rw [if_pos hs, Int32.or_zero, or_c2]
  · rw [if_neg hs]
    refine ⟨_, rfl, ?_⟩
    by_cases hw : b 0 13 ≤ 0
    · simp only [f_S_enterException, f_S_enterException_b42, f_R_landLoad, f_R_dropLoad, f_R_holdLoad, f_R_change, f_C_enter, f_C_enter_b28, f_S_continueAt, bnv, stl, sU_at, w1, w2, p3, hs, hw, st_ent, reduceIte, Nat.reduceEqDiff]
      simp only [Rel, sU_at, sU_fn]
      simp [*]
      refine ⟨r1, ?_, m1⟩
      unfold co
      rw [if_neg hs, or_c2 (b 0 7 <<< _)]
    · have hc2 := clamp_pos hw
      have hn := nle34 (x := b 0 13) (by omega)
      simp only [f_S_enterException, f_S_enterException_b42, f_R_landLoad, f_R_dropLoad, f_R_holdLoad, f_R_change, f_C_enter, f_C_enter_b28, f_S_continueAt, bnv, stl, sU_at, w1, w2, p3, hs, hw, st_ent, reduceIte, Nat.reduceEqDiff, hn]
      simp only [Rel, sU_at, sU_fn]
      simp [*, upd]
      refine ⟨⟨fun j hj => by rw [r1 j hj], fun e => absurd e.symm hc2.2⟩, ?_, m1⟩
      unfold co
      rw [if_neg hs, or_c2 (b 0 7 <<< _)]
