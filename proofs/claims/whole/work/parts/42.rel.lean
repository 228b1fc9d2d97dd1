/-! how a state of the class and one of the reference belong together -/
theorem sU_at (u : St) (i k : Nat) (v : Int32) (j q : Nat) : sU u i k v j q = if j = i then (if q = k then v else u i q) else u j q := by
  unfold sU upd
  by_cases h : j = i
  · simp [h]
  · simp [h]
theorem sU_fn (u : St) (i k : Nat) (v : Int32) (j : Nat) : sU u i k v j = if j = i then upd (u i) k v else u j := rfl
def co (code soft bh : Int32) : Int32 := ((code <<< ((2 : Int32) &&& 31)) ||| (soft <<< ((8 : Int32) &&& 31))) ||| (if zb bh = 0 then 0 else (-2147483648 : Int32))
def sm (n : Nat) (x : Int32) : Prop := ∃ k, k < n ∧ x = nI k
def Rel (a b : St) : Prop :=
  (a 0 4 = b 0 3 ∧ a 0 5 = b 0 4 ∧ zb (a 0 6) = zb (b 0 12) ∧ a 0 7 = b 0 15 ∧ a 0 8 = b 0 16) ∧
  ((∀ j, j < 34 → a 4 j = b 2 j) ∧ b 2 0 = 0) ∧
  (a 3 1 = b 0 13 ∧ a 3 2 = b 0 14 ∧ (b 0 13).toInt < 32) ∧
  (a 5 0 = b 0 5 ∧ a 5 2 = b 0 8 ∧ a 5 3 = b 0 10 ∧ a 5 4 = b 0 11) ∧
  (a 5 1 = co (b 0 6) (b 0 7) (b 0 9) ∧ sm 64 (b 0 6) ∧ sm 4 (b 0 7)) ∧
  ((∀ j, j < 1024 → a 2 j = w4 (b 1) (4 * j)) ∧ ∀ i, isb (b 1 i))
theorem rel_out (a b : St) (k : Nat) (v : Int32) : Rel (sU a 6 k v) b ↔ Rel a b := by
  simp only [Rel, sU_fn]
  simp
theorem rel_scr (a b : St) (k : Nat) (v : Int32) (hk : k = 0 ∨ 17 ≤ k) : Rel a (sU b 0 k v) ↔ Rel a b := by
  have e : ∀ q, 0 < q → q < 17 → sU b 0 k v 0 q = b 0 q := fun q h1 h2 => by
    rw [sU_at, if_pos rfl, if_neg (by omega)]
  have e2 : ∀ q, 0 < q → sU b 0 k v q = b q := fun q h1 => by
    rw [sU_fn, if_neg (by omega)]
  simp only [Rel, e 3 (by omega) (by omega), e 4 (by omega) (by omega), e 5 (by omega) (by omega), e 6 (by omega) (by omega), e 7 (by omega) (by omega), e 8 (by omega) (by omega), e 9 (by omega) (by omega), e 10 (by omega) (by omega), e 11 (by omega) (by omega), e 12 (by omega) (by omega), e 13 (by omega) (by omega), e 14 (by omega) (by omega), e 15 (by omega) (by omega), e 16 (by omega) (by omega), e2 1 (by omega), e2 2 (by omega)]
theorem zb_0 : zb 0 = 0 := rfl
theorem zb_1 : zb 1 = 1 := rfl
theorem zb_eq (x : Int32) : zb x = 0 ↔ x = 0 := by
  unfold zb
  by_cases h : x = 0
  · simp [h]
  · simp [h]
theorem zb_zb (x : Int32) : zb (zb x) = zb x := by
  unfold zb
  by_cases h : x = 0
  · simp [h]
  · simp [h]
/-! the load that waits comes -/
def stl (b : St) : St := if b 0 13 ≤ 0 then sU (sU b 0 13 (-1)) 0 14 0 else sU (sU (sU b 2 (b 0 13).toNatClampNeg (b 0 14)) 0 13 (-1)) 0 14 0
theorem le0_toInt (x : Int32) : x ≤ 0 ↔ x.toInt ≤ 0 := by
  rw [Int32.le_iff_toInt_le]
  exact Iff.rfl
theorem in34 {x : Int32} (h : ¬ x ≤ 0) (h2 : x.toInt < 34) : inb x 34 = true := by
  rw [le0_toInt] at h
  simp [inb]
  omega
theorem nle34 {x : Int32} (h2 : x.toInt < 34) : ¬ (34 : Int32) ≤ x := by
  rw [Int32.le_iff_toInt_le]
  have e1 : (34 : Int32).toInt = 34 := rfl
  omega
theorem clamp_pos {x : Int32} (h : ¬ x ≤ 0) : (x.toNatClampNeg : Int) = x.toInt ∧ x.toNatClampNeg ≠ 0 := by
  rw [le0_toInt] at h
  have e : x.toNatClampNeg = x.toInt.toNat := rfl
  omega
theorem settle_eq (b : St) (h : (b 0 13).toInt < 32) : f_D_settle b = some (stl b) := by
  unfold f_D_settle stl f_D_settle_b20
  by_cases hw : b 0 13 ≤ 0
  · rw [if_pos hw, if_pos hw]
  · rw [if_neg hw, if_neg hw, in34 hw (by omega), if_pos rfl]
theorem e_land (a b : St) (h : Rel a b) : Rel (f_R_landLoad a) (stl b) := by
  obtain ⟨⟨p1, p2, p3, p4, p5⟩, ⟨r1, r2⟩, ⟨w1, w2, w3⟩, ⟨c1, c2, c3, c4⟩, ⟨d1, d2, d3⟩, m1, m2⟩ := h
  have m1' : (-1 : Int32).toInt < 32 := by decide
  by_cases hw : b 0 13 ≤ 0
  · simp only [f_R_landLoad, f_R_dropLoad, f_R_holdLoad, f_R_change, bnv, stl, w1, if_pos hw]
    simp only [Rel, sU_at, sU_fn]
    simp [*]
    exact ⟨r1, m1⟩
  · simp only [f_R_landLoad, f_R_dropLoad, f_R_holdLoad, f_R_change, bnv, stl, w1, if_neg hw, if_neg (nle34 (x := b 0 13) (by omega))]
    have hc := clamp_pos hw
    simp only [Rel, sU_at, sU_fn]
    simp [*, upd]
    refine ⟨⟨fun j hj => ?_, fun e => absurd e.symm hc.2⟩, m1⟩
    rw [r1 j hj]
