/-! how an instruction ends -/
theorem land_3 (a : St) : f_R_landLoad a 3 1 = -1 ∧ f_R_landLoad a 3 2 = 0 := by
  simp only [f_R_landLoad, f_R_dropLoad, f_R_holdLoad, bnv, sU_at]
  simp
theorem land_o (a : St) (j : Nat) (h3 : j ≠ 3) (h4 : j ≠ 4) : f_R_landLoad a j = a j := by
  simp only [f_R_landLoad, f_R_dropLoad, f_R_holdLoad, bnv, sU_fn, f_R_change]
  rw [if_neg h3, if_neg h3]
  split
  · rfl
  · split
    · rfl
    · rw [sU_fn, if_neg h4]
theorem stl_0 (b : St) (q : Nat) (h1 : q ≠ 13) (h2 : q ≠ 14) : stl b 0 q = b 0 q := by
  unfold stl
  split
  · simp only [sU_at]; simp [h1, h2]
  · simp only [sU_at]; simp [h1, h2]
def isB (w o k : Int32) : Int32 := f_D_isBranch (fun _ q => if q = 17 then w else if q = 18 then o else k)
theorem isB_eq (u : St) : f_D_isBranch u = isB (u 0 17) (u 0 18) (u 0 21) := rfl
def FB (b : St) : Option (Int32 × St) := obv (f_D_settle b) (fun u83 => if (u83 0 22) ≤ (0 : Int32) then f_D_oneStep_b106 u83 else if inb (u83 0 22) 34 then f_D_oneStep_b106 (sU u83 2 ((u83 0 22).toNatClampNeg) (u83 0 23)) else none)
def Fin (a b : St) : Prop := ∃ b', FB b = some ((0 : Int32), b') ∧ Rel (f_S_finishInstruction a) b'
theorem fin1 (a b : St) (h : Rel a b) (hb : zb (a 6 3) = zb (f_D_isBranch b)) (h2 : zb (a 6 2) = 0) (h4 : a 6 4 = b 0 26) (hl : b 0 24 = -1) (hld : b 0 25 = 0) (ht : a 6 0 = b 0 22) (hv : ¬ b 0 22 ≤ 0 → a 6 1 = b 0 23) (htr : (b 0 22).toInt < 34) : Fin a b := by
  have hR := e_land a b h
  have w3 := h.2.2.1.2.2
  have l3 := land_3 a
  have l6 := land_o a 6 (by decide) (by decide)
  have k22 := stl_0 b 22 (by decide) (by decide)
  have k23 := stl_0 b 23 (by decide) (by decide)
  have k24 := stl_0 b 24 (by decide) (by decide)
  have k25 := stl_0 b 25 (by decide) (by decide)
  have k26 := stl_0 b 26 (by decide) (by decide)
  have k17 := stl_0 b 17 (by decide) (by decide)
  have k18 := stl_0 b 18 (by decide) (by decide)
  have k21 := stl_0 b 21 (by decide) (by decide)
  rw [isB_eq] at hb
  unfold Fin FB
  rw [settle_eq b w3]
  unfold f_S_finishInstruction
  simp only [bnv, obv]
  generalize f_R_landLoad a = A at *
  generalize stl b = C at *
  obtain ⟨⟨p1, p2, p3, p4, p5⟩, ⟨r1, r2⟩, ⟨w1, w2, w3⟩, ⟨c1, c2, c3, c4⟩, ⟨d1, d2, d3⟩, m1, m2⟩ := hR
  have m1' : (-1 : Int32).toInt < 32 := by decide
  rw [l6, h2, if_pos rfl]
  unfold f_S_finishInstruction_b62 f_D_oneStep_b106 f_R_change
  rw [k22, k23, ht]
  by_cases hto : b 0 22 ≤ 0
  · rw [if_pos hto, if_pos hto]
    refine ⟨_, rfl, ?_⟩
    simp only [Rel, sU_at, sU_fn, isB_eq]
    simp [*]
    exact ⟨r1, m1⟩
  · rw [if_neg hto, if_neg hto, if_neg (nle34 htr), in34 hto htr, if_pos rfl]
    refine ⟨_, rfl, ?_⟩
    have hv := hv hto
    have hc2 := clamp_pos hto
    simp only [Rel, sU_at, sU_fn, isB_eq]
    simp [*, upd]
    exact ⟨⟨fun j hj => by rw [r1 j hj], fun e => absurd e.symm hc2.2⟩, m1⟩
theorem fin2 (a b : St) (h : Rel a b) (hb : zb (a 6 3) = zb (f_D_isBranch b)) (h2 : ¬ zb (a 6 2) = 0) (h4 : a 6 4 = b 0 26) (hl : a 6 0 = b 0 24) (hld : a 6 1 = b 0 25) (ht : b 0 22 = -1) (hlr : (b 0 24).toInt < 32) : Fin a b := by
  have hR := e_land a b h
  have w3 := h.2.2.1.2.2
  have l3 := land_3 a
  have l6 := land_o a 6 (by decide) (by decide)
  have k22 := stl_0 b 22 (by decide) (by decide)
  have k24 := stl_0 b 24 (by decide) (by decide)
  have k25 := stl_0 b 25 (by decide) (by decide)
  have k26 := stl_0 b 26 (by decide) (by decide)
  have k17 := stl_0 b 17 (by decide) (by decide)
  have k18 := stl_0 b 18 (by decide) (by decide)
  have k21 := stl_0 b 21 (by decide) (by decide)
  rw [isB_eq] at hb
  unfold Fin FB
  rw [settle_eq b w3]
  unfold f_S_finishInstruction
  simp only [bnv, obv]
  generalize f_R_landLoad a = A at *
  generalize stl b = C at *
  obtain ⟨⟨p1, p2, p3, p4, p5⟩, ⟨r1, r2⟩, ⟨w1, w2, w3⟩, ⟨c1, c2, c3, c4⟩, ⟨d1, d2, d3⟩, m1, m2⟩ := hR
  rw [l6, if_neg h2]
  unfold f_S_finishInstruction_b62 f_D_oneStep_b106 f_R_holdLoad
  rw [k22, ht, if_pos (by decide)]
  refine ⟨_, rfl, ?_⟩
  simp only [Rel, sU_at, sU_fn, isB_eq]
  simp [*]
  exact ⟨r1, m1⟩
/-- a move into HIGH or LOW: the class at the end, the reference at once -/
theorem fin3 (a b : St) (h : Rel a b) (k : Nat) (v : Int32) (hk : k = 32 ∨ k = 33) (hb : zb (a 6 3) = zb (f_D_isBranch b)) (h2 : zb (a 6 2) = 0) (h4 : a 6 4 = b 0 26) (hl : b 0 24 = -1) (hld : b 0 25 = 0) (ht : b 0 22 = -1) : Fin (sU (sU a 6 0 (nI k)) 6 1 v) (sU b 2 k v) := by
  have w3 := h.2.2.1.2.2
  have hk2 : (nI k).toNatClampNeg = k := my_cln (by omega)
  have hk3 : ¬ nI k ≤ 0 := by rcases hk with rfl | rfl <;> decide
  have hk4 : ¬ (34 : Int32) ≤ nI k := by rcases hk with rfl | rfl <;> decide
  have hk5 : ¬ 0 = k := by omega
  rw [isB_eq] at hb
  obtain ⟨⟨p1, p2, p3, p4, p5⟩, ⟨r1, r2⟩, ⟨w1, w2, w3⟩, ⟨c1, c2, c3, c4⟩, ⟨d1, d2, d3⟩, m1, m2⟩ := h
  have m1' : (-1 : Int32).toInt < 32 := by decide
  have e13 : sU b 2 k v 0 13 = b 0 13 := by simp only [sU_at]; simp
  unfold Fin FB
  rw [settle_eq _ (by rw [e13]; exact w3)]
  simp only [obv]
  by_cases hw0 : b 0 13 ≤ 0
  · simp only [stl, sU_at, reduceIte, Nat.reduceEqDiff, hw0, ht, f_D_oneStep_b106]
    rw [if_pos (by decide)]
    refine ⟨_, rfl, ?_⟩
    simp only [f_S_finishInstruction, f_S_finishInstruction_b62, f_R_landLoad, f_R_dropLoad, f_R_holdLoad, f_R_change, bnv, sU_at, w1, w2, reduceIte, Nat.reduceEqDiff, hw0, h2, hk3, hk4, hk2]
    simp only [Rel, sU_at, sU_fn, isB_eq]
    simp [*, upd]
    exact ⟨fun j hj => by rw [r1 j hj], m1⟩
  · have hc2 := clamp_pos hw0
    have hn := nle34 (x := b 0 13) (by omega)
    have hne : ¬ k = (b 0 13).toNatClampNeg := by omega
    simp only [stl, sU_at, reduceIte, Nat.reduceEqDiff, hw0, ht, f_D_oneStep_b106]
    rw [if_pos (by decide)]
    refine ⟨_, rfl, ?_⟩
    simp only [f_S_finishInstruction, f_S_finishInstruction_b62, f_R_landLoad, f_R_dropLoad, f_R_holdLoad, f_R_change, bnv, sU_at, w1, w2, reduceIte, Nat.reduceEqDiff, hw0, h2, hk3, hk4, hk2, hn]
    simp only [Rel, sU_at, sU_fn, isB_eq]
    simp [*, upd]
    refine ⟨⟨fun j hj => ?_, fun e => absurd e.symm hc2.2⟩, m1⟩
    rw [r1 j hj]
    by_cases e1 : j = k
    · by_cases e2 : j = (b 0 13).toNatClampNeg
      · omega
      · simp [e1, e2, hne]
    · simp [e1]
