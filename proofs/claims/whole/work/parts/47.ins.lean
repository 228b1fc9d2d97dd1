/-! instructions, one by one: the class's road and the reference's come to like ends -/
abbrev qS (w : Int32) : Int32 := (w >>> ((21 : Int32) &&& 31)) &&& (31 : Int32)
abbrev qT (w : Int32) : Int32 := (w >>> ((16 : Int32) &&& 31)) &&& (31 : Int32)
abbrev qD (w : Int32) : Int32 := (w >>> ((11 : Int32) &&& 31)) &&& (31 : Int32)
def sv (b : St) (w : Int32) : Int32 := b 2 (qS w).toNatClampNeg
def tv (b : St) (w : Int32) : Int32 := b 2 (qT w).toNatClampNeg
theorem rd_17 (b : St) (w : Int32) : rd b w 0 17 = w := by simp [rd, sU_at]
theorem rd_18 (b : St) (w : Int32) : rd b w 0 18 = ush w (26 : Int32) := by simp [rd, sU_at]
theorem rd_19 (b : St) (w : Int32) : rd b w 0 19 = sv b w := by simp [rd, sU_at, sv]
theorem rd_20 (b : St) (w : Int32) : rd b w 0 20 = tv b w := by simp [rd, sU_at, tv]
theorem rd_21 (b : St) (w : Int32) : rd b w 0 21 = w &&& (63 : Int32) := by simp [rd, sU_at]
theorem rd_22 (b : St) (w : Int32) : rd b w 0 22 = -1 := by simp [rd, sU_at]
theorem rd_24 (b : St) (w : Int32) : rd b w 0 24 = -1 := by simp [rd, sU_at]
theorem rd_25 (b : St) (w : Int32) : rd b w 0 25 = 0 := by simp [rd, sU_at]
theorem rd_26 (b : St) (w : Int32) : rd b w 0 26 = b 0 4 + 4 := by simp [rd, sU_at]
theorem rd_lo (b : St) (w : Int32) (q : Nat) (hq : q < 17) : rd b w 0 q = b 0 q := by
  have : ∀ z, 17 ≤ z → ¬ q = z := fun z hz => by omega
  simp [rd, sU_at, this]
theorem rd_j (b : St) (w : Int32) (j : Nat) (hj : j ≠ 0) : rd b w j = b j := by
  simp [rd, sU_fn, hj]
theorem bg_6 (a : St) : bg a 6 0 = -1 ∧ bg a 6 2 = 0 ∧ bg a 6 3 = 0 ∧ bg a 6 4 = a 0 5 + 4 := by simp [bg, sU_at]
theorem bg_j (a : St) (j : Nat) (hj : j ≠ 6) : bg a j = a j := by
  simp [bg, sU_fn, hj]
theorem vS (a b : St) (h : Rel a b) (w : Int32) : f_S_valueOfS w (bg a) = sv b w := by
  rw [valS_eq _ _ (rel_bg a b w h), rd_j b w 2 (by decide)]; rfl
theorem vT (a b : St) (h : Rel a b) (w : Int32) : f_S_valueOfT w (bg a) = tv b w := by
  rw [valT_eq _ _ (rel_bg a b w h), rd_j b w 2 (by decide)]; rfl
theorem and31_lt (x : Int32) : (x &&& (31 : Int32)).toInt < 32 := by
  obtain ⟨j, hj, e⟩ := and31_nI x
  rw [e, nI_toInt (by omega)]
  omega
/-- a result for a register -/
theorem fin_give (a b : St) (h : Rel a b) (w d v : Int32) (hd : d.toInt < 34) (hn : zb (isB w (ush w (26 : Int32)) (w &&& (63 : Int32))) = 0) : Fin (sU (sU (bg a) 6 0 d) 6 1 v) (sU (sU (rd b w) 0 22 d) 0 23 v) := by
  have hR := rel_bg a b w h
  have b6 := bg_6 a
  refine fin1 _ _ ?_ ?_ ?_ ?_ ?_ ?_ ?_ ?_ ?_
  · rw [rel_out, rel_out, rel_scr _ _ _ _ (by decide), rel_scr _ _ _ _ (by decide)]; exact hR
  · rw [isB_eq]; simp only [sU_at, reduceIte, Nat.reduceEqDiff, b6.2.2.1, rd_17, rd_18, rd_21, hn]; rfl
  · simp only [sU_at, reduceIte, Nat.reduceEqDiff, b6.2.1]; rfl
  · simp only [sU_at, reduceIte, Nat.reduceEqDiff, b6.2.2.2, rd_26, h.1.2.1]
  · simp only [sU_at, reduceIte, Nat.reduceEqDiff, rd_24]
  · simp only [sU_at, reduceIte, Nat.reduceEqDiff, rd_25]
  · simp only [sU_at, reduceIte, Nat.reduceEqDiff]
  · intro _; simp only [sU_at, reduceIte, Nat.reduceEqDiff]
  · simp only [sU_at, reduceIte, Nat.reduceEqDiff]; exact hd
def trb (b : St) : Int32 × St := if (zb (f_D_isKnown b)) = (0 : Int32) then ((10 : Int32), b) else f_D_trouble_b24 b
/-- class and reference alike at one instruction -/
def Per (x : Int32 × St) (b1 : St) : Prop := (∃ r a' b', ftl r ∧ x = (r, a') ∧ trb b1 = (r, b') ∧ Rel a' b') ∨ (∃ a' b', x = ((-1 : Int32), a') ∧ trb b1 = ((0 : Int32), b1) ∧ f_D_act b1 = some b' ∧ Fin a' b')
