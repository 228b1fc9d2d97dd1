theorem q34 (x : Int32) : (x &&& (31 : Int32)).toInt < 34 := by
  have := and31_lt x
  omega
theorem l2i_add (x y : Int32) : (x.toInt64 + y.toInt64).toInt32 = x + y := by
  apply Int32.toBitVec_inj.mp
  simp [Int64.toBitVec_toInt32, Int32.toBitVec_add]
theorem l2i_sub (x y : Int32) : (x.toInt64 - y.toInt64).toInt32 = x - y := by
  apply Int32.toBitVec_inj.mp
  simp [Int64.toBitVec_toInt32, Int32.toBitVec_sub]
theorem vH (a b : St) (h : Rel a b) (k : Nat) (hk : k < 34) : f_R_valueOf (nI k) (bg a) = b 2 k := by
  unfold f_R_valueOf
  rw [if_neg (nI_pos (by omega)), if_neg (show ¬ (34 : Int32) ≤ nI k from nI_ge (a := k) (b := 34) (by omega) (by omega)), my_cln (by omega), bg_j a 4 (by decide)]
  exact h.2.1.1 k hk
theorem vH32 (a b : St) (h : Rel a b) : f_R_valueOf (32 : Int32) (bg a) = b 2 32 := vH a b h 32 (by decide)
theorem vH33 (a b : St) (h : Rel a b) : f_R_valueOf (33 : Int32) (bg a) = b 2 33 := vH a b h 33 (by decide)
theorem ws_toInt (x : Int32) : (f_S_withoutSign x).toInt = (uX x : Int) := by
  unfold f_S_withoutSign uX
  have e : (x.toInt64 &&& (4294967295 : Int64)).toBitVec = (x.toBitVec).setWidth 64 := by
    rw [Int64.toBitVec_and, Int32.toBitVec_toInt64]
    apply BitVec.eq_of_getLsbD_eq
    intro i hi
    rw [BitVec.getLsbD_and, BitVec.getLsbD_signExtend, BitVec.getLsbD_setWidth]
    have h2 : ((4294967295 : Int64).toBitVec).getLsbD i = decide (i < 32) := (by decide +kernel : ∀ i, i < 64 → ((4294967295 : Int64).toBitVec).getLsbD i = decide (i < 32)) i hi
    rw [h2]
    by_cases h : i < 32
    · simp [h, hi]
    · have h3 := BitVec.getLsbD_of_ge x.toBitVec i (by omega)
      simp [h, h3]
  have hx := x.toBitVec.isLt
  show (x.toInt64 &&& (4294967295 : Int64)).toBitVec.toInt = _
  rw [e, BitVec.toInt_eq_toNat_cond]
  simp
  omega
theorem addmin (x : Int32) : (x + (-2147483648 : Int32)).toInt = (uX x : Int) - 2147483648 := by
  unfold uX
  have hx := x.toBitVec.isLt
  show (x + (-2147483648 : Int32)).toBitVec.toInt = _
  rw [Int32.toBitVec_add]
  have e : ((-2147483648 : Int32)).toBitVec = 2147483648#32 := rfl
  rw [e, BitVec.toInt_eq_toNat_cond, BitVec.toNat_add]
  have e2 : (2147483648#32).toNat = 2147483648 := rfl
  rw [e2]
  omega
theorem ltu_eq (s t : Int32) : ((0 : Int32) ≤ lg_cmp (f_S_withoutSign s) (f_S_withoutSign t)) = (t + (-2147483648 : Int32) ≤ s + (-2147483648 : Int32)) := by
  apply propext
  rw [Int32.le_iff_toInt_le (x := t + _), addmin, addmin]
  unfold lg_cmp
  have h1 := ws_toInt s
  have h2 := ws_toInt t
  by_cases hl : f_S_withoutSign s < f_S_withoutSign t
  · have hl2 := Int64.lt_iff_toInt_lt.mp hl
    have hn : ¬ f_S_withoutSign t < f_S_withoutSign s := fun z => by
      have := Int64.lt_iff_toInt_lt.mp z
      omega
    have hne : ¬ f_S_withoutSign s = f_S_withoutSign t := fun z => by rw [z] at hl2; omega
    simp (decide := true) [hl, hn, hne]
    omega
  · have hl2 : ¬ (f_S_withoutSign s).toInt < (f_S_withoutSign t).toInt := fun z => hl (Int64.lt_iff_toInt_lt.mpr z)
    have : (0 : Int32) ≤ lg_cmp (f_S_withoutSign s) (f_S_withoutSign t) := by
      unfold lg_cmp
      by_cases hg : f_S_withoutSign t < f_S_withoutSign s
      · simp (decide := true) [hg]
      · have he : f_S_withoutSign s = f_S_withoutSign t := Int64.toInt_inj.mp (by
          have : ¬ (f_S_withoutSign t).toInt < (f_S_withoutSign s).toInt := fun z => hg (Int64.lt_iff_toInt_lt.mpr z)
          omega)
        simp (decide := true) [he]
    unfold lg_cmp at this
    simp only [this, true_iff]
    omega
theorem i2l2i (x : Int32) : x.toInt64.toInt32 = x := by simp
theorem b64_ext {x y : Int64} (h : ∀ i, i < 64 → x.toBitVec.getLsbD i = y.toBitVec.getLsbD i) : x = y := Int64.toBitVec_inj.mp (BitVec.eq_of_getLsbD_eq (fun i hi => h i hi))
theorem c32_64 : ((32 : Int32).toInt64 &&& 63).toBitVec.smod 64 = 32#64 := by decide +kernel
theorem rq_bits (r q : Int64) {i : Nat} (hi : i < 64) : (f_S_restAndQuotient r q).toBitVec.getLsbD i = if i < 32 then q.toBitVec.getLsbD i else r.toBitVec.getLsbD (i - 32) := by
  unfold f_S_restAndQuotient
  rw [Int64.toBitVec_or, BitVec.getLsbD_or, Int64.toBitVec_and, BitVec.getLsbD_and, Int64.toBitVec_shiftLeft]
  have h2 : ((4294967295 : Int64).toBitVec).getLsbD i = decide (i < 32) := (by decide +kernel : ∀ i, i < 64 → ((4294967295 : Int64).toBitVec).getLsbD i = decide (i < 32)) i hi
  rw [h2]
  have h3 : (r.toBitVec <<< (((32 : Int32).toInt64 &&& 63).toBitVec.smod 64)) = r.toBitVec <<< 32 := by
    rw [c32_64]; rfl
  rw [h3, BitVec.getLsbD_shiftLeft]
  by_cases h : i < 32
  · simp [h, hi]
  · simp [h, hi]
theorem rq_lo (r q : Int64) : (f_S_restAndQuotient r q).toInt32 = q.toInt32 := by
  refine b_ext (fun i hi => ?_)
  unfold bt
  rw [Int64.toBitVec_toInt32, Int64.toBitVec_toInt32, BitVec.getLsbD_signExtend, BitVec.getLsbD_signExtend, if_pos (show i < 64 by omega), if_pos (show i < 64 by omega), rq_bits r q (by omega), if_pos hi]
theorem rq_hi (r q : Int64) : ((f_S_restAndQuotient r q) >>> ((32 : Int32).toInt64 &&& 63)).toInt32 = r.toInt32 := by
  refine b_ext (fun i hi => ?_)
  unfold bt
  rw [Int64.toBitVec_toInt32, Int64.toBitVec_toInt32, BitVec.getLsbD_signExtend, BitVec.getLsbD_signExtend, if_pos (show i < 64 by omega), if_pos (show i < 64 by omega), Int64.toBitVec_shiftRight]
  have h3 : ((f_S_restAndQuotient r q).toBitVec.sshiftRight' (((32 : Int32).toInt64 &&& 63).toBitVec.smod 64)) = (f_S_restAndQuotient r q).toBitVec.sshiftRight 32 := by
    rw [c32_64]; rfl
  rw [h3, BitVec.getLsbD_sshiftRight, rq_bits r q (i := 32 + i) (by omega)]
  have h4 : ¬ 32 + i < 32 := by omega
  have h5 : ¬ 64 ≤ i := by omega
  have h6 : 32 + i < 64 := by omega
  simp [hi, h4, h5, h6]
theorem vS_out (u : St) (k : Nat) (v w : Int32) : f_S_valueOfS w (sU u 6 k v) = f_S_valueOfS w u := by
  have e : sU u 6 k v 4 = u 4 := by rw [sU_fn, if_neg (by decide)]
  unfold f_S_valueOfS f_R_valueOf
  rw [e]
theorem l1i : (1 : Int64).toInt32 = 1 := by decide +kernel
theorem lm1i : (-1 : Int64).toInt32 = -1 := by decide +kernel
/-- branches -/
theorem fin_br (a b : St) (h : Rel a b) (w t : Int32) (hn : zb (isB w (ush w (26 : Int32)) (w &&& (63 : Int32))) = 1) : Fin (sU (sU (bg a) 6 3 1) 6 4 t) (sU (rd b w) 0 26 t) := by
  have hR := rel_bg a b w h
  have b6 := bg_6 a
  refine fin1 _ _ ?_ ?_ ?_ ?_ ?_ ?_ ?_ ?_ ?_
  · rw [rel_out, rel_out, rel_scr _ _ _ _ (by decide)]; exact hR
  · rw [isB_eq]; simp only [sU_at, reduceIte, Nat.reduceEqDiff, rd_17, rd_18, rd_21, hn]; rfl
  · simp only [sU_at, reduceIte, Nat.reduceEqDiff, b6.2.1]; rfl
  · simp only [sU_at, reduceIte, Nat.reduceEqDiff]
  · simp only [sU_at, reduceIte, Nat.reduceEqDiff, rd_24]
  · simp only [sU_at, reduceIte, Nat.reduceEqDiff, rd_25]
  · simp only [sU_at, reduceIte, Nat.reduceEqDiff, b6.1, rd_22]
  · intro z; simp only [sU_at, reduceIte, Nat.reduceEqDiff, rd_22] at z; exact absurd (by decide) z
  · simp only [sU_at, reduceIte, Nat.reduceEqDiff, rd_22]; decide
theorem fin_brn (a b : St) (h : Rel a b) (w : Int32) (hn : zb (isB w (ush w (26 : Int32)) (w &&& (63 : Int32))) = 1) : Fin (sU (bg a) 6 3 1) (rd b w) := by
  have hR := rel_bg a b w h
  have b6 := bg_6 a
  refine fin1 _ _ ?_ ?_ ?_ ?_ ?_ ?_ ?_ ?_ ?_
  · rw [rel_out]; exact hR
  · rw [isB_eq]; simp only [sU_at, reduceIte, Nat.reduceEqDiff, rd_17, rd_18, rd_21, hn]; rfl
  · simp only [sU_at, reduceIte, Nat.reduceEqDiff, b6.2.1]; rfl
  · simp only [sU_at, reduceIte, Nat.reduceEqDiff, b6.2.2.2, rd_26, h.1.2.1]
  · exact rd_24 b w
  · exact rd_25 b w
  · simp only [sU_at, reduceIte, Nat.reduceEqDiff, b6.1, rd_22]
  · intro z; rw [rd_22] at z; exact absurd (by decide) z
  · rw [rd_22]; decide
theorem fin_brl (a b : St) (h : Rel a b) (w d v t : Int32) (hd : d.toInt < 34) (hn : zb (isB w (ush w (26 : Int32)) (w &&& (63 : Int32))) = 1) : Fin (sU (sU (sU (sU (bg a) 6 0 d) 6 1 v) 6 3 1) 6 4 t) (sU (sU (sU (rd b w) 0 26 t) 0 22 d) 0 23 v) := by
  have hR := rel_bg a b w h
  have b6 := bg_6 a
  refine fin1 _ _ ?_ ?_ ?_ ?_ ?_ ?_ ?_ ?_ ?_
  · rw [rel_out, rel_out, rel_out, rel_out, rel_scr _ _ _ _ (by decide), rel_scr _ _ _ _ (by decide), rel_scr _ _ _ _ (by decide)]; exact hR
  · rw [isB_eq]; simp only [sU_at, reduceIte, Nat.reduceEqDiff, rd_17, rd_18, rd_21, hn]; rfl
  · simp only [sU_at, reduceIte, Nat.reduceEqDiff, b6.2.1]; rfl
  · simp only [sU_at, reduceIte, Nat.reduceEqDiff]
  · simp only [sU_at, reduceIte, Nat.reduceEqDiff, rd_24]
  · simp only [sU_at, reduceIte, Nat.reduceEqDiff, rd_25]
  · simp only [sU_at, reduceIte, Nat.reduceEqDiff]
  · intro _; simp only [sU_at, reduceIte, Nat.reduceEqDiff]
  · simp only [sU_at, reduceIte, Nat.reduceEqDiff]; exact hd
theorem fin_brln (a b : St) (h : Rel a b) (w d v : Int32) (hd : d.toInt < 34) (hn : zb (isB w (ush w (26 : Int32)) (w &&& (63 : Int32))) = 1) : Fin (sU (sU (sU (bg a) 6 0 d) 6 1 v) 6 3 1) (sU (sU (rd b w) 0 22 d) 0 23 v) := by
  have hR := rel_bg a b w h
  have b6 := bg_6 a
  refine fin1 _ _ ?_ ?_ ?_ ?_ ?_ ?_ ?_ ?_ ?_
  · rw [rel_out, rel_out, rel_out, rel_scr _ _ _ _ (by decide), rel_scr _ _ _ _ (by decide)]; exact hR
  · rw [isB_eq]; simp only [sU_at, reduceIte, Nat.reduceEqDiff, rd_17, rd_18, rd_21, hn]; rfl
  · simp only [sU_at, reduceIte, Nat.reduceEqDiff, b6.2.1]; rfl
  · simp only [sU_at, reduceIte, Nat.reduceEqDiff, b6.2.2.2, rd_26, h.1.2.1]
  · simp only [sU_at, reduceIte, Nat.reduceEqDiff, rd_24]
  · simp only [sU_at, reduceIte, Nat.reduceEqDiff, rd_25]
  · simp only [sU_at, reduceIte, Nat.reduceEqDiff]
  · intro _; simp only [sU_at, reduceIte, Nat.reduceEqDiff]
  · simp only [sU_at, reduceIte, Nat.reduceEqDiff]; exact hd
/-- nothing for a register at the end -/
theorem fin_nop (a' b' b : St) (w : Int32) (hn : zb (isB w (ush w (26 : Int32)) (w &&& (63 : Int32))) = 0) (h : Rel a' b') (e0 : a' 6 0 = -1) (e2 : a' 6 2 = 0) (e3 : a' 6 3 = 0) (e4 : a' 6 4 = rd b w 0 26) (hs : ∀ q, 17 ≤ q → b' 0 q = rd b w 0 q) : Fin a' b' := by
  refine fin1 _ _ h ?_ ?_ ?_ ?_ ?_ ?_ ?_ ?_
  · rw [isB_eq, hs 17 (by decide), hs 18 (by decide), hs 21 (by decide), rd_17, rd_18, rd_21, hn, e3]; rfl
  · rw [e2]; rfl
  · rw [e4, hs 26 (by decide)]
  · rw [hs 24 (by decide), rd_24]
  · rw [hs 25 (by decide), rd_25]
  · rw [hs 22 (by decide), rd_22, e0]
  · intro z; rw [hs 22 (by decide), rd_22] at z; exact absurd (by decide) z
  · rw [hs 22 (by decide), rd_22]; decide
theorem fin_hl (a b : St) (h : Rel a b) (w x y : Int32) (hn : zb (isB w (ush w (26 : Int32)) (w &&& (63 : Int32))) = 0) : Fin (sU (sU (bg a) 4 32 x) 4 33 y) (sU (sU (rd b w) 2 32 x) 2 33 y) := by
  have b6 := bg_6 a
  have hR := rel_bg a b w h
  obtain ⟨⟨p1, p2, p3, p4, p5⟩, ⟨r1, r2⟩, ⟨w1, w2, w3⟩, ⟨c1, c2, c3, c4⟩, ⟨d1, d2, d3⟩, m1, m2⟩ := hR
  refine fin_nop _ _ b w hn ?_ ?_ ?_ ?_ ?_ ?_
  · simp only [Rel, sU_at, sU_fn]
    simp [*, upd]
    exact ⟨fun j hj => by rw [r1 j hj], m1⟩
  · simp only [sU_at, reduceIte, Nat.reduceEqDiff, b6.1]
  · simp only [sU_at, reduceIte, Nat.reduceEqDiff, b6.2.1]
  · simp only [sU_at, reduceIte, Nat.reduceEqDiff, b6.2.2.1]
  · simp only [sU_at, reduceIte, Nat.reduceEqDiff, b6.2.2.2, rd_26, h.1.2.1]
  · intro q hq; simp only [sU_at, reduceIte, Nat.reduceEqDiff]
theorem fin_lh (a b : St) (h : Rel a b) (w x y : Int32) (hn : zb (isB w (ush w (26 : Int32)) (w &&& (63 : Int32))) = 0) : Fin (sU (sU (bg a) 4 32 x) 4 33 y) (sU (sU (rd b w) 2 33 y) 2 32 x) := by
  have b6 := bg_6 a
  have hR := rel_bg a b w h
  obtain ⟨⟨p1, p2, p3, p4, p5⟩, ⟨r1, r2⟩, ⟨w1, w2, w3⟩, ⟨c1, c2, c3, c4⟩, ⟨d1, d2, d3⟩, m1, m2⟩ := hR
  refine fin_nop _ _ b w hn ?_ ?_ ?_ ?_ ?_ ?_
  · simp only [Rel, sU_at, sU_fn]
    simp [*, upd]
    refine ⟨fun j hj => ?_, m1⟩
    rw [r1 j hj]
    by_cases e1 : j = 33
    · simp [e1]
    · simp [e1]
  · simp only [sU_at, reduceIte, Nat.reduceEqDiff, b6.1]
  · simp only [sU_at, reduceIte, Nat.reduceEqDiff, b6.2.1]
  · simp only [sU_at, reduceIte, Nat.reduceEqDiff, b6.2.2.1]
  · simp only [sU_at, reduceIte, Nat.reduceEqDiff, b6.2.2.2, rd_26, h.1.2.1]
  · intro q hq; simp only [sU_at, reduceIte, Nat.reduceEqDiff]
theorem i0_0 (a b : St) (h : Rel a b) (w : Int32) (ho : ush w (26 : Int32) = 0) (hk : w &&& (63 : Int32) = 0) : Per (f_S_perform_b30 w (bg a)) (rd b w) := by
  right
  refine ⟨_, _, ?_, ?_, ?_, fin_give a b h w (qD w) (tv b w <<< (((w >>> ((6 : Int32) &&& 31)) &&& (31 : Int32)) &&& 31)) (q34 _) (by rw [ho, hk]; rfl)⟩
  · simp (decide := true) only [f_S_perform_b30, f_S_orderOf, ho, f_S_performByK, f_S_performByK_b132, f_S_performByK_b138, f_S_performByK_b150, f_S_performByK_b156, f_S_performByK_b162, f_S_performShift, f_S_performShift_b124, f_S_performOnTwo, f_S_performOnTwo_b183, f_S_performOnTwo_b207, f_S_performMove, f_S_performProduct, f_S_performJumpToS, f_S_performJumpToS_b25, f_S_numberK, hk, vS a b h w, vT a b h w, nD_eq, nA_eq, f_S_give, f_S_giveIfExact, f_S_giveTruth, f_S_giveTruth_b11, f_S_keepHighAndLow, f_S_branchIf, bnd, bnv, zb_0, zb_1, if_true, if_false]
  · simp (decide := true) only [trb, f_D_isKnown, f_D_isKnown_b36, f_D_isKnown_b37, f_D_isKnown_b96, f_D_isKnown_b114, f_D_isKnown_b132, f_D_trouble_b24, f_D_trouble_b57, f_D_trouble_b83, f_D_trouble_b87, f_D_trouble_b88, f_D_exact, zb_0, zb_1, rd_18, rd_19, rd_20, rd_21, ho, hk, if_true, if_false]
  · simp (decide := true) only [f_D_act, f_D_byRegisters, f_D_byRegisters_b172, f_D_byRegisters_b226, f_D_byRegisters_b204, f_D_byRegisters_b253, f_D_byRegisters_b233, f_D_byRegisters_b276, f_D_byRegisters_b261, f_D_byRegisters_b297, f_D_byRegisters_b282, f_D_byRegisters_b303, f_D_byRegisters_b320, f_D_byRegisters_b425, f_D_byRegisters_b452, f_D_byRegisters_b458, f_D_shifts, f_D_shifts_b28, f_D_shifts_b74, rd_17, rd_18, rd_19, rd_20, rd_21, ho, hk, f_D_gives, bnv, obv, zb_0, zb_1, if_true, if_false]
theorem i0_2 (a b : St) (h : Rel a b) (w : Int32) (ho : ush w (26 : Int32) = 0) (hk : w &&& (63 : Int32) = 2) : Per (f_S_perform_b30 w (bg a)) (rd b w) := by
  right
  refine ⟨_, _, ?_, ?_, ?_, fin_give a b h w (qD w) (ush (tv b w) ((w >>> ((6 : Int32) &&& 31)) &&& (31 : Int32))) (q34 _) (by rw [ho, hk]; rfl)⟩
  · simp (decide := true) only [f_S_perform_b30, f_S_orderOf, ho, f_S_performByK, f_S_performByK_b132, f_S_performByK_b138, f_S_performByK_b150, f_S_performByK_b156, f_S_performByK_b162, f_S_performShift, f_S_performShift_b124, f_S_performOnTwo, f_S_performOnTwo_b183, f_S_performOnTwo_b207, f_S_performMove, f_S_performProduct, f_S_performJumpToS, f_S_performJumpToS_b25, f_S_numberK, hk, vS a b h w, vT a b h w, nD_eq, nA_eq, f_S_give, f_S_giveIfExact, f_S_giveTruth, f_S_giveTruth_b11, f_S_keepHighAndLow, f_S_branchIf, bnd, bnv, zb_0, zb_1, if_true, if_false]
  · simp (decide := true) only [trb, f_D_isKnown, f_D_isKnown_b36, f_D_isKnown_b37, f_D_isKnown_b96, f_D_isKnown_b114, f_D_isKnown_b132, f_D_trouble_b24, f_D_trouble_b57, f_D_trouble_b83, f_D_trouble_b87, f_D_trouble_b88, f_D_exact, zb_0, zb_1, rd_18, rd_19, rd_20, rd_21, ho, hk, if_true, if_false]
  · simp (decide := true) only [f_D_act, f_D_byRegisters, f_D_byRegisters_b172, f_D_byRegisters_b226, f_D_byRegisters_b204, f_D_byRegisters_b253, f_D_byRegisters_b233, f_D_byRegisters_b276, f_D_byRegisters_b261, f_D_byRegisters_b297, f_D_byRegisters_b282, f_D_byRegisters_b303, f_D_byRegisters_b320, f_D_byRegisters_b425, f_D_byRegisters_b452, f_D_byRegisters_b458, f_D_shifts, f_D_shifts_b28, f_D_shifts_b74, rd_17, rd_18, rd_19, rd_20, rd_21, ho, hk, f_D_gives, bnv, obv, zb_0, zb_1, if_true, if_false]
theorem i0_3 (a b : St) (h : Rel a b) (w : Int32) (ho : ush w (26 : Int32) = 0) (hk : w &&& (63 : Int32) = 3) : Per (f_S_perform_b30 w (bg a)) (rd b w) := by
  right
  refine ⟨_, _, ?_, ?_, ?_, fin_give a b h w (qD w) (tv b w >>> (((w >>> ((6 : Int32) &&& 31)) &&& (31 : Int32)) &&& 31)) (q34 _) (by rw [ho, hk]; rfl)⟩
  · simp (decide := true) only [f_S_perform_b30, f_S_orderOf, ho, f_S_performByK, f_S_performByK_b132, f_S_performByK_b138, f_S_performByK_b150, f_S_performByK_b156, f_S_performByK_b162, f_S_performShift, f_S_performShift_b124, f_S_performOnTwo, f_S_performOnTwo_b183, f_S_performOnTwo_b207, f_S_performMove, f_S_performProduct, f_S_performJumpToS, f_S_performJumpToS_b25, f_S_numberK, hk, vS a b h w, vT a b h w, nD_eq, nA_eq, f_S_give, f_S_giveIfExact, f_S_giveTruth, f_S_giveTruth_b11, f_S_keepHighAndLow, f_S_branchIf, bnd, bnv, zb_0, zb_1, if_true, if_false]
  · simp (decide := true) only [trb, f_D_isKnown, f_D_isKnown_b36, f_D_isKnown_b37, f_D_isKnown_b96, f_D_isKnown_b114, f_D_isKnown_b132, f_D_trouble_b24, f_D_trouble_b57, f_D_trouble_b83, f_D_trouble_b87, f_D_trouble_b88, f_D_exact, zb_0, zb_1, rd_18, rd_19, rd_20, rd_21, ho, hk, if_true, if_false]
  · simp (decide := true) only [f_D_act, f_D_byRegisters, f_D_byRegisters_b172, f_D_byRegisters_b226, f_D_byRegisters_b204, f_D_byRegisters_b253, f_D_byRegisters_b233, f_D_byRegisters_b276, f_D_byRegisters_b261, f_D_byRegisters_b297, f_D_byRegisters_b282, f_D_byRegisters_b303, f_D_byRegisters_b320, f_D_byRegisters_b425, f_D_byRegisters_b452, f_D_byRegisters_b458, f_D_shifts, f_D_shifts_b28, f_D_shifts_b74, rd_17, rd_18, rd_19, rd_20, rd_21, ho, hk, f_D_gives, bnv, obv, zb_0, zb_1, if_true, if_false]
theorem i0_4 (a b : St) (h : Rel a b) (w : Int32) (ho : ush w (26 : Int32) = 0) (hk : w &&& (63 : Int32) = 4) : Per (f_S_perform_b30 w (bg a)) (rd b w) := by
  right
  refine ⟨_, _, ?_, ?_, ?_, fin_give a b h w (qD w) (tv b w <<< ((sv b w &&& (31 : Int32)) &&& 31)) (q34 _) (by rw [ho, hk]; rfl)⟩
  · simp (decide := true) only [f_S_perform_b30, f_S_orderOf, ho, f_S_performByK, f_S_performByK_b132, f_S_performByK_b138, f_S_performByK_b150, f_S_performByK_b156, f_S_performByK_b162, f_S_performShift, f_S_performShift_b124, f_S_performOnTwo, f_S_performOnTwo_b183, f_S_performOnTwo_b207, f_S_performMove, f_S_performProduct, f_S_performJumpToS, f_S_performJumpToS_b25, f_S_numberK, hk, vS a b h w, vT a b h w, nD_eq, nA_eq, f_S_give, f_S_giveIfExact, f_S_giveTruth, f_S_giveTruth_b11, f_S_keepHighAndLow, f_S_branchIf, bnd, bnv, zb_0, zb_1, if_true, if_false]
  · simp (decide := true) only [trb, f_D_isKnown, f_D_isKnown_b36, f_D_isKnown_b37, f_D_isKnown_b96, f_D_isKnown_b114, f_D_isKnown_b132, f_D_trouble_b24, f_D_trouble_b57, f_D_trouble_b83, f_D_trouble_b87, f_D_trouble_b88, f_D_exact, zb_0, zb_1, rd_18, rd_19, rd_20, rd_21, ho, hk, if_true, if_false]
  · simp (decide := true) only [f_D_act, f_D_byRegisters, f_D_byRegisters_b172, f_D_byRegisters_b226, f_D_byRegisters_b204, f_D_byRegisters_b253, f_D_byRegisters_b233, f_D_byRegisters_b276, f_D_byRegisters_b261, f_D_byRegisters_b297, f_D_byRegisters_b282, f_D_byRegisters_b303, f_D_byRegisters_b320, f_D_byRegisters_b425, f_D_byRegisters_b452, f_D_byRegisters_b458, f_D_shifts, f_D_shifts_b28, f_D_shifts_b74, rd_17, rd_18, rd_19, rd_20, rd_21, ho, hk, f_D_gives, bnv, obv, zb_0, zb_1, if_true, if_false]
theorem i0_6 (a b : St) (h : Rel a b) (w : Int32) (ho : ush w (26 : Int32) = 0) (hk : w &&& (63 : Int32) = 6) : Per (f_S_perform_b30 w (bg a)) (rd b w) := by
  right
  refine ⟨_, _, ?_, ?_, ?_, fin_give a b h w (qD w) (ush (tv b w) (sv b w &&& (31 : Int32))) (q34 _) (by rw [ho, hk]; rfl)⟩
  · simp (decide := true) only [f_S_perform_b30, f_S_orderOf, ho, f_S_performByK, f_S_performByK_b132, f_S_performByK_b138, f_S_performByK_b150, f_S_performByK_b156, f_S_performByK_b162, f_S_performShift, f_S_performShift_b124, f_S_performOnTwo, f_S_performOnTwo_b183, f_S_performOnTwo_b207, f_S_performMove, f_S_performProduct, f_S_performJumpToS, f_S_performJumpToS_b25, f_S_numberK, hk, vS a b h w, vT a b h w, nD_eq, nA_eq, f_S_give, f_S_giveIfExact, f_S_giveTruth, f_S_giveTruth_b11, f_S_keepHighAndLow, f_S_branchIf, bnd, bnv, zb_0, zb_1, if_true, if_false]
  · simp (decide := true) only [trb, f_D_isKnown, f_D_isKnown_b36, f_D_isKnown_b37, f_D_isKnown_b96, f_D_isKnown_b114, f_D_isKnown_b132, f_D_trouble_b24, f_D_trouble_b57, f_D_trouble_b83, f_D_trouble_b87, f_D_trouble_b88, f_D_exact, zb_0, zb_1, rd_18, rd_19, rd_20, rd_21, ho, hk, if_true, if_false]
  · simp (decide := true) only [f_D_act, f_D_byRegisters, f_D_byRegisters_b172, f_D_byRegisters_b226, f_D_byRegisters_b204, f_D_byRegisters_b253, f_D_byRegisters_b233, f_D_byRegisters_b276, f_D_byRegisters_b261, f_D_byRegisters_b297, f_D_byRegisters_b282, f_D_byRegisters_b303, f_D_byRegisters_b320, f_D_byRegisters_b425, f_D_byRegisters_b452, f_D_byRegisters_b458, f_D_shifts, f_D_shifts_b28, f_D_shifts_b74, rd_17, rd_18, rd_19, rd_20, rd_21, ho, hk, f_D_gives, bnv, obv, zb_0, zb_1, if_true, if_false]
theorem i0_7 (a b : St) (h : Rel a b) (w : Int32) (ho : ush w (26 : Int32) = 0) (hk : w &&& (63 : Int32) = 7) : Per (f_S_perform_b30 w (bg a)) (rd b w) := by
  right
  refine ⟨_, _, ?_, ?_, ?_, fin_give a b h w (qD w) (tv b w >>> ((sv b w &&& (31 : Int32)) &&& 31)) (q34 _) (by rw [ho, hk]; rfl)⟩
  · simp (decide := true) only [f_S_perform_b30, f_S_orderOf, ho, f_S_performByK, f_S_performByK_b132, f_S_performByK_b138, f_S_performByK_b150, f_S_performByK_b156, f_S_performByK_b162, f_S_performShift, f_S_performShift_b124, f_S_performOnTwo, f_S_performOnTwo_b183, f_S_performOnTwo_b207, f_S_performMove, f_S_performProduct, f_S_performJumpToS, f_S_performJumpToS_b25, f_S_numberK, hk, vS a b h w, vT a b h w, nD_eq, nA_eq, f_S_give, f_S_giveIfExact, f_S_giveTruth, f_S_giveTruth_b11, f_S_keepHighAndLow, f_S_branchIf, bnd, bnv, zb_0, zb_1, if_true, if_false]
  · simp (decide := true) only [trb, f_D_isKnown, f_D_isKnown_b36, f_D_isKnown_b37, f_D_isKnown_b96, f_D_isKnown_b114, f_D_isKnown_b132, f_D_trouble_b24, f_D_trouble_b57, f_D_trouble_b83, f_D_trouble_b87, f_D_trouble_b88, f_D_exact, zb_0, zb_1, rd_18, rd_19, rd_20, rd_21, ho, hk, if_true, if_false]
  · simp (decide := true) only [f_D_act, f_D_byRegisters, f_D_byRegisters_b172, f_D_byRegisters_b226, f_D_byRegisters_b204, f_D_byRegisters_b253, f_D_byRegisters_b233, f_D_byRegisters_b276, f_D_byRegisters_b261, f_D_byRegisters_b297, f_D_byRegisters_b282, f_D_byRegisters_b303, f_D_byRegisters_b320, f_D_byRegisters_b425, f_D_byRegisters_b452, f_D_byRegisters_b458, f_D_shifts, f_D_shifts_b28, f_D_shifts_b74, rd_17, rd_18, rd_19, rd_20, rd_21, ho, hk, f_D_gives, bnv, obv, zb_0, zb_1, if_true, if_false]
theorem i0_33 (a b : St) (h : Rel a b) (w : Int32) (ho : ush w (26 : Int32) = 0) (hk : w &&& (63 : Int32) = 33) : Per (f_S_perform_b30 w (bg a)) (rd b w) := by
  right
  refine ⟨_, _, ?_, ?_, ?_, fin_give a b h w (qD w) (sv b w + tv b w) (q34 _) (by rw [ho, hk]; rfl)⟩
  · simp (decide := true) only [f_S_perform_b30, f_S_orderOf, ho, f_S_performByK, f_S_performByK_b132, f_S_performByK_b138, f_S_performByK_b150, f_S_performByK_b156, f_S_performByK_b162, f_S_performShift, f_S_performShift_b124, f_S_performOnTwo, f_S_performOnTwo_b183, f_S_performOnTwo_b207, f_S_performMove, f_S_performProduct, f_S_performJumpToS, f_S_performJumpToS_b25, f_S_numberK, hk, vS a b h w, vT a b h w, nD_eq, nA_eq, f_S_give, f_S_giveIfExact, f_S_giveTruth, f_S_giveTruth_b11, f_S_keepHighAndLow, f_S_branchIf, bnd, bnv, zb_0, zb_1, if_true, if_false]
  · simp (decide := true) only [trb, f_D_isKnown, f_D_isKnown_b36, f_D_isKnown_b37, f_D_isKnown_b96, f_D_isKnown_b114, f_D_isKnown_b132, f_D_trouble_b24, f_D_trouble_b57, f_D_trouble_b83, f_D_trouble_b87, f_D_trouble_b88, f_D_exact, zb_0, zb_1, rd_18, rd_19, rd_20, rd_21, ho, hk, if_true, if_false]
  · simp (decide := true) only [f_D_act, f_D_byRegisters, f_D_byRegisters_b172, f_D_byRegisters_b226, f_D_byRegisters_b204, f_D_byRegisters_b253, f_D_byRegisters_b233, f_D_byRegisters_b276, f_D_byRegisters_b261, f_D_byRegisters_b297, f_D_byRegisters_b282, f_D_byRegisters_b303, f_D_byRegisters_b320, f_D_byRegisters_b425, f_D_byRegisters_b452, f_D_byRegisters_b458, f_D_shifts, f_D_shifts_b28, f_D_shifts_b74, rd_17, rd_18, rd_19, rd_20, rd_21, ho, hk, f_D_gives, bnv, obv, zb_0, zb_1, if_true, if_false]
theorem i0_35 (a b : St) (h : Rel a b) (w : Int32) (ho : ush w (26 : Int32) = 0) (hk : w &&& (63 : Int32) = 35) : Per (f_S_perform_b30 w (bg a)) (rd b w) := by
  right
  refine ⟨_, _, ?_, ?_, ?_, fin_give a b h w (qD w) (sv b w - tv b w) (q34 _) (by rw [ho, hk]; rfl)⟩
  · simp (decide := true) only [f_S_perform_b30, f_S_orderOf, ho, f_S_performByK, f_S_performByK_b132, f_S_performByK_b138, f_S_performByK_b150, f_S_performByK_b156, f_S_performByK_b162, f_S_performShift, f_S_performShift_b124, f_S_performOnTwo, f_S_performOnTwo_b183, f_S_performOnTwo_b207, f_S_performMove, f_S_performProduct, f_S_performJumpToS, f_S_performJumpToS_b25, f_S_numberK, hk, vS a b h w, vT a b h w, nD_eq, nA_eq, f_S_give, f_S_giveIfExact, f_S_giveTruth, f_S_giveTruth_b11, f_S_keepHighAndLow, f_S_branchIf, bnd, bnv, zb_0, zb_1, if_true, if_false]
  · simp (decide := true) only [trb, f_D_isKnown, f_D_isKnown_b36, f_D_isKnown_b37, f_D_isKnown_b96, f_D_isKnown_b114, f_D_isKnown_b132, f_D_trouble_b24, f_D_trouble_b57, f_D_trouble_b83, f_D_trouble_b87, f_D_trouble_b88, f_D_exact, zb_0, zb_1, rd_18, rd_19, rd_20, rd_21, ho, hk, if_true, if_false]
  · simp (decide := true) only [f_D_act, f_D_byRegisters, f_D_byRegisters_b172, f_D_byRegisters_b226, f_D_byRegisters_b204, f_D_byRegisters_b253, f_D_byRegisters_b233, f_D_byRegisters_b276, f_D_byRegisters_b261, f_D_byRegisters_b297, f_D_byRegisters_b282, f_D_byRegisters_b303, f_D_byRegisters_b320, f_D_byRegisters_b425, f_D_byRegisters_b452, f_D_byRegisters_b458, f_D_shifts, f_D_shifts_b28, f_D_shifts_b74, rd_17, rd_18, rd_19, rd_20, rd_21, ho, hk, f_D_gives, bnv, obv, zb_0, zb_1, if_true, if_false]
theorem i0_36 (a b : St) (h : Rel a b) (w : Int32) (ho : ush w (26 : Int32) = 0) (hk : w &&& (63 : Int32) = 36) : Per (f_S_perform_b30 w (bg a)) (rd b w) := by
  right
  refine ⟨_, _, ?_, ?_, ?_, fin_give a b h w (qD w) (sv b w &&& tv b w) (q34 _) (by rw [ho, hk]; rfl)⟩
  · simp (decide := true) only [f_S_perform_b30, f_S_orderOf, ho, f_S_performByK, f_S_performByK_b132, f_S_performByK_b138, f_S_performByK_b150, f_S_performByK_b156, f_S_performByK_b162, f_S_performShift, f_S_performShift_b124, f_S_performOnTwo, f_S_performOnTwo_b183, f_S_performOnTwo_b207, f_S_performMove, f_S_performProduct, f_S_performJumpToS, f_S_performJumpToS_b25, f_S_numberK, hk, vS a b h w, vT a b h w, nD_eq, nA_eq, f_S_give, f_S_giveIfExact, f_S_giveTruth, f_S_giveTruth_b11, f_S_keepHighAndLow, f_S_branchIf, bnd, bnv, zb_0, zb_1, if_true, if_false]
  · simp (decide := true) only [trb, f_D_isKnown, f_D_isKnown_b36, f_D_isKnown_b37, f_D_isKnown_b96, f_D_isKnown_b114, f_D_isKnown_b132, f_D_trouble_b24, f_D_trouble_b57, f_D_trouble_b83, f_D_trouble_b87, f_D_trouble_b88, f_D_exact, zb_0, zb_1, rd_18, rd_19, rd_20, rd_21, ho, hk, if_true, if_false]
  · simp (decide := true) only [f_D_act, f_D_byRegisters, f_D_byRegisters_b172, f_D_byRegisters_b226, f_D_byRegisters_b204, f_D_byRegisters_b253, f_D_byRegisters_b233, f_D_byRegisters_b276, f_D_byRegisters_b261, f_D_byRegisters_b297, f_D_byRegisters_b282, f_D_byRegisters_b303, f_D_byRegisters_b320, f_D_byRegisters_b425, f_D_byRegisters_b452, f_D_byRegisters_b458, f_D_shifts, f_D_shifts_b28, f_D_shifts_b74, rd_17, rd_18, rd_19, rd_20, rd_21, ho, hk, f_D_gives, bnv, obv, zb_0, zb_1, if_true, if_false]
theorem i0_37 (a b : St) (h : Rel a b) (w : Int32) (ho : ush w (26 : Int32) = 0) (hk : w &&& (63 : Int32) = 37) : Per (f_S_perform_b30 w (bg a)) (rd b w) := by
  right
  refine ⟨_, _, ?_, ?_, ?_, fin_give a b h w (qD w) (sv b w ||| tv b w) (q34 _) (by rw [ho, hk]; rfl)⟩
  · simp (decide := true) only [f_S_perform_b30, f_S_orderOf, ho, f_S_performByK, f_S_performByK_b132, f_S_performByK_b138, f_S_performByK_b150, f_S_performByK_b156, f_S_performByK_b162, f_S_performShift, f_S_performShift_b124, f_S_performOnTwo, f_S_performOnTwo_b183, f_S_performOnTwo_b207, f_S_performMove, f_S_performProduct, f_S_performJumpToS, f_S_performJumpToS_b25, f_S_numberK, hk, vS a b h w, vT a b h w, nD_eq, nA_eq, f_S_give, f_S_giveIfExact, f_S_giveTruth, f_S_giveTruth_b11, f_S_keepHighAndLow, f_S_branchIf, bnd, bnv, zb_0, zb_1, if_true, if_false]
  · simp (decide := true) only [trb, f_D_isKnown, f_D_isKnown_b36, f_D_isKnown_b37, f_D_isKnown_b96, f_D_isKnown_b114, f_D_isKnown_b132, f_D_trouble_b24, f_D_trouble_b57, f_D_trouble_b83, f_D_trouble_b87, f_D_trouble_b88, f_D_exact, zb_0, zb_1, rd_18, rd_19, rd_20, rd_21, ho, hk, if_true, if_false]
  · simp (decide := true) only [f_D_act, f_D_byRegisters, f_D_byRegisters_b172, f_D_byRegisters_b226, f_D_byRegisters_b204, f_D_byRegisters_b253, f_D_byRegisters_b233, f_D_byRegisters_b276, f_D_byRegisters_b261, f_D_byRegisters_b297, f_D_byRegisters_b282, f_D_byRegisters_b303, f_D_byRegisters_b320, f_D_byRegisters_b425, f_D_byRegisters_b452, f_D_byRegisters_b458, f_D_shifts, f_D_shifts_b28, f_D_shifts_b74, rd_17, rd_18, rd_19, rd_20, rd_21, ho, hk, f_D_gives, bnv, obv, zb_0, zb_1, if_true, if_false]
theorem i0_38 (a b : St) (h : Rel a b) (w : Int32) (ho : ush w (26 : Int32) = 0) (hk : w &&& (63 : Int32) = 38) : Per (f_S_perform_b30 w (bg a)) (rd b w) := by
  right
  refine ⟨_, _, ?_, ?_, ?_, fin_give a b h w (qD w) (sv b w ^^^ tv b w) (q34 _) (by rw [ho, hk]; rfl)⟩
  · simp (decide := true) only [f_S_perform_b30, f_S_orderOf, ho, f_S_performByK, f_S_performByK_b132, f_S_performByK_b138, f_S_performByK_b150, f_S_performByK_b156, f_S_performByK_b162, f_S_performShift, f_S_performShift_b124, f_S_performOnTwo, f_S_performOnTwo_b183, f_S_performOnTwo_b207, f_S_performMove, f_S_performProduct, f_S_performJumpToS, f_S_performJumpToS_b25, f_S_numberK, hk, vS a b h w, vT a b h w, nD_eq, nA_eq, f_S_give, f_S_giveIfExact, f_S_giveTruth, f_S_giveTruth_b11, f_S_keepHighAndLow, f_S_branchIf, bnd, bnv, zb_0, zb_1, if_true, if_false]
  · simp (decide := true) only [trb, f_D_isKnown, f_D_isKnown_b36, f_D_isKnown_b37, f_D_isKnown_b96, f_D_isKnown_b114, f_D_isKnown_b132, f_D_trouble_b24, f_D_trouble_b57, f_D_trouble_b83, f_D_trouble_b87, f_D_trouble_b88, f_D_exact, zb_0, zb_1, rd_18, rd_19, rd_20, rd_21, ho, hk, if_true, if_false]
  · simp (decide := true) only [f_D_act, f_D_byRegisters, f_D_byRegisters_b172, f_D_byRegisters_b226, f_D_byRegisters_b204, f_D_byRegisters_b253, f_D_byRegisters_b233, f_D_byRegisters_b276, f_D_byRegisters_b261, f_D_byRegisters_b297, f_D_byRegisters_b282, f_D_byRegisters_b303, f_D_byRegisters_b320, f_D_byRegisters_b425, f_D_byRegisters_b452, f_D_byRegisters_b458, f_D_shifts, f_D_shifts_b28, f_D_shifts_b74, rd_17, rd_18, rd_19, rd_20, rd_21, ho, hk, f_D_gives, bnv, obv, zb_0, zb_1, if_true, if_false]
theorem i0_39 (a b : St) (h : Rel a b) (w : Int32) (ho : ush w (26 : Int32) = 0) (hk : w &&& (63 : Int32) = 39) : Per (f_S_perform_b30 w (bg a)) (rd b w) := by
  right
  refine ⟨_, _, ?_, ?_, ?_, fin_give a b h w (qD w) ((sv b w ||| tv b w) ^^^ (-1 : Int32)) (q34 _) (by rw [ho, hk]; rfl)⟩
  · simp (decide := true) only [f_S_perform_b30, f_S_orderOf, ho, f_S_performByK, f_S_performByK_b132, f_S_performByK_b138, f_S_performByK_b150, f_S_performByK_b156, f_S_performByK_b162, f_S_performShift, f_S_performShift_b124, f_S_performOnTwo, f_S_performOnTwo_b183, f_S_performOnTwo_b207, f_S_performMove, f_S_performProduct, f_S_performJumpToS, f_S_performJumpToS_b25, f_S_numberK, hk, vS a b h w, vT a b h w, nD_eq, nA_eq, f_S_give, f_S_giveIfExact, f_S_giveTruth, f_S_giveTruth_b11, f_S_keepHighAndLow, f_S_branchIf, bnd, bnv, zb_0, zb_1, if_true, if_false]
  · simp (decide := true) only [trb, f_D_isKnown, f_D_isKnown_b36, f_D_isKnown_b37, f_D_isKnown_b96, f_D_isKnown_b114, f_D_isKnown_b132, f_D_trouble_b24, f_D_trouble_b57, f_D_trouble_b83, f_D_trouble_b87, f_D_trouble_b88, f_D_exact, zb_0, zb_1, rd_18, rd_19, rd_20, rd_21, ho, hk, if_true, if_false]
  · simp (decide := true) only [f_D_act, f_D_byRegisters, f_D_byRegisters_b172, f_D_byRegisters_b226, f_D_byRegisters_b204, f_D_byRegisters_b253, f_D_byRegisters_b233, f_D_byRegisters_b276, f_D_byRegisters_b261, f_D_byRegisters_b297, f_D_byRegisters_b282, f_D_byRegisters_b303, f_D_byRegisters_b320, f_D_byRegisters_b425, f_D_byRegisters_b452, f_D_byRegisters_b458, f_D_shifts, f_D_shifts_b28, f_D_shifts_b74, rd_17, rd_18, rd_19, rd_20, rd_21, ho, hk, f_D_gives, bnv, obv, zb_0, zb_1, if_true, if_false]
theorem i0_12 (a b : St) (h : Rel a b) (w : Int32) (ho : ush w (26 : Int32) = 0) (hk : w &&& (63 : Int32) = 12) : Per (f_S_perform_b30 w (bg a)) (rd b w) := by
  left
  refine ⟨(8 : Int32), _, _, ⟨sm8, by decide, by decide, by decide, by decide⟩, ?_, ?_, rel_bg a b w h⟩
  · simp (decide := true) only [f_S_perform_b30, f_S_orderOf, ho, f_S_performByK, f_S_performByK_b132, f_S_performByK_b138, f_S_performByK_b150, f_S_performByK_b156, f_S_performByK_b162, f_S_performShift, f_S_performShift_b124, f_S_performOnTwo, f_S_performOnTwo_b183, f_S_performOnTwo_b207, f_S_performMove, f_S_performProduct, f_S_performJumpToS, f_S_performJumpToS_b25, f_S_numberK, hk, vS a b h w, vT a b h w, nD_eq, nA_eq, f_S_give, f_S_giveIfExact, f_S_giveTruth, f_S_giveTruth_b11, f_S_keepHighAndLow, f_S_branchIf, bnd, bnv, zb_0, zb_1, if_true, if_false]
  · simp (decide := true) only [trb, f_D_isKnown, f_D_isKnown_b36, f_D_isKnown_b37, f_D_isKnown_b96, f_D_isKnown_b114, f_D_isKnown_b132, f_D_trouble_b24, f_D_trouble_b57, f_D_trouble_b83, f_D_trouble_b87, f_D_trouble_b88, f_D_exact, zb_0, zb_1, rd_18, rd_19, rd_20, rd_21, ho, hk, if_true, if_false]
theorem i0_13 (a b : St) (h : Rel a b) (w : Int32) (ho : ush w (26 : Int32) = 0) (hk : w &&& (63 : Int32) = 13) : Per (f_S_perform_b30 w (bg a)) (rd b w) := by
  left
  refine ⟨(9 : Int32), _, _, ⟨sm9, by decide, by decide, by decide, by decide⟩, ?_, ?_, rel_bg a b w h⟩
  · simp (decide := true) only [f_S_perform_b30, f_S_orderOf, ho, f_S_performByK, f_S_performByK_b132, f_S_performByK_b138, f_S_performByK_b150, f_S_performByK_b156, f_S_performByK_b162, f_S_performShift, f_S_performShift_b124, f_S_performOnTwo, f_S_performOnTwo_b183, f_S_performOnTwo_b207, f_S_performMove, f_S_performProduct, f_S_performJumpToS, f_S_performJumpToS_b25, f_S_numberK, hk, vS a b h w, vT a b h w, nD_eq, nA_eq, f_S_give, f_S_giveIfExact, f_S_giveTruth, f_S_giveTruth_b11, f_S_keepHighAndLow, f_S_branchIf, bnd, bnv, zb_0, zb_1, if_true, if_false]
  · simp (decide := true) only [trb, f_D_isKnown, f_D_isKnown_b36, f_D_isKnown_b37, f_D_isKnown_b96, f_D_isKnown_b114, f_D_isKnown_b132, f_D_trouble_b24, f_D_trouble_b57, f_D_trouble_b83, f_D_trouble_b87, f_D_trouble_b88, f_D_exact, zb_0, zb_1, rd_18, rd_19, rd_20, rd_21, ho, hk, if_true, if_false]
theorem i0_32 (a b : St) (h : Rel a b) (w : Int32) (ho : ush w (26 : Int32) = 0) (hk : w &&& (63 : Int32) = 32) : Per (f_S_perform_b30 w (bg a)) (rd b w) := by
  by_cases he : lg_cmp ((sv b w).toInt64 + (tv b w).toInt64) (sv b w + tv b w).toInt64 = 0
  · right
    refine ⟨_, _, ?_, ?_, ?_, fin_give a b h w (qD w) (sv b w + tv b w) (q34 _) (by rw [ho, hk]; rfl)⟩
    · simp (decide := true) only [f_S_perform_b30, f_S_orderOf, ho, f_S_performByK, f_S_performByK_b132, f_S_performByK_b138, f_S_performByK_b150, f_S_performByK_b156, f_S_performByK_b162, f_S_performShift, f_S_performShift_b124, f_S_performOnTwo, f_S_performOnTwo_b183, f_S_performOnTwo_b207, f_S_performMove, f_S_performProduct, f_S_performJumpToS, f_S_performJumpToS_b25, f_S_numberK, hk, vS a b h w, vT a b h w, nD_eq, nA_eq, f_S_give, f_S_giveIfExact, f_S_giveTruth, f_S_giveTruth_b11, f_S_keepHighAndLow, f_S_branchIf, bnd, bnv, zb_0, zb_1, if_true, if_false, he, l2i_add]
    · simp (decide := true) only [trb, f_D_isKnown, f_D_isKnown_b36, f_D_isKnown_b37, f_D_isKnown_b96, f_D_isKnown_b114, f_D_isKnown_b132, f_D_trouble_b24, f_D_trouble_b57, f_D_trouble_b83, f_D_trouble_b87, f_D_trouble_b88, f_D_exact, zb_0, zb_1, rd_18, rd_19, rd_20, rd_21, ho, hk, if_true, if_false, he, l2i_add, l2i_sub]
    · simp (decide := true) only [f_D_act, f_D_byRegisters, f_D_byRegisters_b172, f_D_byRegisters_b226, f_D_byRegisters_b204, f_D_byRegisters_b253, f_D_byRegisters_b233, f_D_byRegisters_b276, f_D_byRegisters_b261, f_D_byRegisters_b297, f_D_byRegisters_b282, f_D_byRegisters_b303, f_D_byRegisters_b320, f_D_byRegisters_b425, f_D_byRegisters_b452, f_D_byRegisters_b458, f_D_shifts, f_D_shifts_b28, f_D_shifts_b74, rd_17, rd_18, rd_19, rd_20, rd_21, ho, hk, f_D_gives, bnv, obv, zb_0, zb_1, if_true, if_false]
  · left
    refine ⟨(12 : Int32), _, _, ⟨sm12, by decide, by decide, by decide, by decide⟩, ?_, ?_, rel_bg a b w h⟩
    · simp (decide := true) only [f_S_perform_b30, f_S_orderOf, ho, f_S_performByK, f_S_performByK_b132, f_S_performByK_b138, f_S_performByK_b150, f_S_performByK_b156, f_S_performByK_b162, f_S_performShift, f_S_performShift_b124, f_S_performOnTwo, f_S_performOnTwo_b183, f_S_performOnTwo_b207, f_S_performMove, f_S_performProduct, f_S_performJumpToS, f_S_performJumpToS_b25, f_S_numberK, hk, vS a b h w, vT a b h w, nD_eq, nA_eq, f_S_give, f_S_giveIfExact, f_S_giveTruth, f_S_giveTruth_b11, f_S_keepHighAndLow, f_S_branchIf, bnd, bnv, zb_0, zb_1, if_true, if_false, he, l2i_add, l2i_sub]
    · simp (decide := true) only [trb, f_D_isKnown, f_D_isKnown_b36, f_D_isKnown_b37, f_D_isKnown_b96, f_D_isKnown_b114, f_D_isKnown_b132, f_D_trouble_b24, f_D_trouble_b57, f_D_trouble_b83, f_D_trouble_b87, f_D_trouble_b88, f_D_exact, zb_0, zb_1, rd_18, rd_19, rd_20, rd_21, ho, hk, if_true, if_false, he, l2i_add, l2i_sub]
theorem i0_34 (a b : St) (h : Rel a b) (w : Int32) (ho : ush w (26 : Int32) = 0) (hk : w &&& (63 : Int32) = 34) : Per (f_S_perform_b30 w (bg a)) (rd b w) := by
  by_cases he : lg_cmp ((sv b w).toInt64 - (tv b w).toInt64) (sv b w - tv b w).toInt64 = 0
  · right
    refine ⟨_, _, ?_, ?_, ?_, fin_give a b h w (qD w) (sv b w - tv b w) (q34 _) (by rw [ho, hk]; rfl)⟩
    · simp (decide := true) only [f_S_perform_b30, f_S_orderOf, ho, f_S_performByK, f_S_performByK_b132, f_S_performByK_b138, f_S_performByK_b150, f_S_performByK_b156, f_S_performByK_b162, f_S_performShift, f_S_performShift_b124, f_S_performOnTwo, f_S_performOnTwo_b183, f_S_performOnTwo_b207, f_S_performMove, f_S_performProduct, f_S_performJumpToS, f_S_performJumpToS_b25, f_S_numberK, hk, vS a b h w, vT a b h w, nD_eq, nA_eq, f_S_give, f_S_giveIfExact, f_S_giveTruth, f_S_giveTruth_b11, f_S_keepHighAndLow, f_S_branchIf, bnd, bnv, zb_0, zb_1, if_true, if_false, he, l2i_sub]
    · simp (decide := true) only [trb, f_D_isKnown, f_D_isKnown_b36, f_D_isKnown_b37, f_D_isKnown_b96, f_D_isKnown_b114, f_D_isKnown_b132, f_D_trouble_b24, f_D_trouble_b57, f_D_trouble_b83, f_D_trouble_b87, f_D_trouble_b88, f_D_exact, zb_0, zb_1, rd_18, rd_19, rd_20, rd_21, ho, hk, if_true, if_false, he, l2i_add, l2i_sub]
    · simp (decide := true) only [f_D_act, f_D_byRegisters, f_D_byRegisters_b172, f_D_byRegisters_b226, f_D_byRegisters_b204, f_D_byRegisters_b253, f_D_byRegisters_b233, f_D_byRegisters_b276, f_D_byRegisters_b261, f_D_byRegisters_b297, f_D_byRegisters_b282, f_D_byRegisters_b303, f_D_byRegisters_b320, f_D_byRegisters_b425, f_D_byRegisters_b452, f_D_byRegisters_b458, f_D_shifts, f_D_shifts_b28, f_D_shifts_b74, rd_17, rd_18, rd_19, rd_20, rd_21, ho, hk, f_D_gives, bnv, obv, zb_0, zb_1, if_true, if_false]
  · left
    refine ⟨(12 : Int32), _, _, ⟨sm12, by decide, by decide, by decide, by decide⟩, ?_, ?_, rel_bg a b w h⟩
    · simp (decide := true) only [f_S_perform_b30, f_S_orderOf, ho, f_S_performByK, f_S_performByK_b132, f_S_performByK_b138, f_S_performByK_b150, f_S_performByK_b156, f_S_performByK_b162, f_S_performShift, f_S_performShift_b124, f_S_performOnTwo, f_S_performOnTwo_b183, f_S_performOnTwo_b207, f_S_performMove, f_S_performProduct, f_S_performJumpToS, f_S_performJumpToS_b25, f_S_numberK, hk, vS a b h w, vT a b h w, nD_eq, nA_eq, f_S_give, f_S_giveIfExact, f_S_giveTruth, f_S_giveTruth_b11, f_S_keepHighAndLow, f_S_branchIf, bnd, bnv, zb_0, zb_1, if_true, if_false, he, l2i_add, l2i_sub]
    · simp (decide := true) only [trb, f_D_isKnown, f_D_isKnown_b36, f_D_isKnown_b37, f_D_isKnown_b96, f_D_isKnown_b114, f_D_isKnown_b132, f_D_trouble_b24, f_D_trouble_b57, f_D_trouble_b83, f_D_trouble_b87, f_D_trouble_b88, f_D_exact, zb_0, zb_1, rd_18, rd_19, rd_20, rd_21, ho, hk, if_true, if_false, he, l2i_add, l2i_sub]
theorem i0_42 (a b : St) (h : Rel a b) (w : Int32) (ho : ush w (26 : Int32) = 0) (hk : w &&& (63 : Int32) = 42) : Per (f_S_perform_b30 w (bg a)) (rd b w) := by
  right
  by_cases he : tv b w ≤ sv b w
  · refine ⟨_, _, ?_, ?_, ?_, fin_give a b h w (qD w) 0 (q34 _) (by rw [ho, hk]; rfl)⟩
    · simp (decide := true) only [f_S_perform_b30, f_S_orderOf, ho, f_S_performByK, f_S_performByK_b132, f_S_performByK_b138, f_S_performByK_b150, f_S_performByK_b156, f_S_performByK_b162, f_S_performShift, f_S_performShift_b124, f_S_performOnTwo, f_S_performOnTwo_b183, f_S_performOnTwo_b207, f_S_performMove, f_S_performProduct, f_S_performJumpToS, f_S_performJumpToS_b25, f_S_numberK, hk, vS a b h w, vT a b h w, nD_eq, nA_eq, f_S_give, f_S_giveIfExact, f_S_giveTruth, f_S_giveTruth_b11, f_S_keepHighAndLow, f_S_branchIf, bnd, bnv, zb_0, zb_1, if_true, if_false, he]
    · simp (decide := true) only [trb, f_D_isKnown, f_D_isKnown_b36, f_D_isKnown_b37, f_D_isKnown_b96, f_D_isKnown_b114, f_D_isKnown_b132, f_D_trouble_b24, f_D_trouble_b57, f_D_trouble_b83, f_D_trouble_b87, f_D_trouble_b88, f_D_exact, zb_0, zb_1, rd_18, rd_19, rd_20, rd_21, ho, hk, if_true, if_false]
    · simp (decide := true) only [f_D_act, f_D_byRegisters, f_D_byRegisters_b172, f_D_byRegisters_b226, f_D_byRegisters_b204, f_D_byRegisters_b253, f_D_byRegisters_b233, f_D_byRegisters_b276, f_D_byRegisters_b261, f_D_byRegisters_b297, f_D_byRegisters_b282, f_D_byRegisters_b303, f_D_byRegisters_b320, f_D_byRegisters_b425, f_D_byRegisters_b452, f_D_byRegisters_b458, f_D_shifts, f_D_shifts_b28, f_D_shifts_b74, rd_17, rd_18, rd_19, rd_20, rd_21, ho, hk, f_D_gives, bnv, obv, zb_0, zb_1, if_true, if_false, he]
  · refine ⟨_, _, ?_, ?_, ?_, fin_give a b h w (qD w) 1 (q34 _) (by rw [ho, hk]; rfl)⟩
    · simp (decide := true) only [f_S_perform_b30, f_S_orderOf, ho, f_S_performByK, f_S_performByK_b132, f_S_performByK_b138, f_S_performByK_b150, f_S_performByK_b156, f_S_performByK_b162, f_S_performShift, f_S_performShift_b124, f_S_performOnTwo, f_S_performOnTwo_b183, f_S_performOnTwo_b207, f_S_performMove, f_S_performProduct, f_S_performJumpToS, f_S_performJumpToS_b25, f_S_numberK, hk, vS a b h w, vT a b h w, nD_eq, nA_eq, f_S_give, f_S_giveIfExact, f_S_giveTruth, f_S_giveTruth_b11, f_S_keepHighAndLow, f_S_branchIf, bnd, bnv, zb_0, zb_1, if_true, if_false, he]
    · simp (decide := true) only [trb, f_D_isKnown, f_D_isKnown_b36, f_D_isKnown_b37, f_D_isKnown_b96, f_D_isKnown_b114, f_D_isKnown_b132, f_D_trouble_b24, f_D_trouble_b57, f_D_trouble_b83, f_D_trouble_b87, f_D_trouble_b88, f_D_exact, zb_0, zb_1, rd_18, rd_19, rd_20, rd_21, ho, hk, if_true, if_false]
    · simp (decide := true) only [f_D_act, f_D_byRegisters, f_D_byRegisters_b172, f_D_byRegisters_b226, f_D_byRegisters_b204, f_D_byRegisters_b253, f_D_byRegisters_b233, f_D_byRegisters_b276, f_D_byRegisters_b261, f_D_byRegisters_b297, f_D_byRegisters_b282, f_D_byRegisters_b303, f_D_byRegisters_b320, f_D_byRegisters_b425, f_D_byRegisters_b452, f_D_byRegisters_b458, f_D_shifts, f_D_shifts_b28, f_D_shifts_b74, rd_17, rd_18, rd_19, rd_20, rd_21, ho, hk, f_D_gives, bnv, obv, zb_0, zb_1, if_true, if_false, he]
theorem i0_43 (a b : St) (h : Rel a b) (w : Int32) (ho : ush w (26 : Int32) = 0) (hk : w &&& (63 : Int32) = 43) : Per (f_S_perform_b30 w (bg a)) (rd b w) := by
  right
  by_cases he : tv b w + (-2147483648 : Int32) ≤ sv b w + (-2147483648 : Int32)
  · refine ⟨_, _, ?_, ?_, ?_, fin_give a b h w (qD w) 0 (q34 _) (by rw [ho, hk]; rfl)⟩
    · simp (decide := true) only [f_S_perform_b30, f_S_orderOf, ho, f_S_performByK, f_S_performByK_b132, f_S_performByK_b138, f_S_performByK_b150, f_S_performByK_b156, f_S_performByK_b162, f_S_performShift, f_S_performShift_b124, f_S_performOnTwo, f_S_performOnTwo_b183, f_S_performOnTwo_b207, f_S_performMove, f_S_performProduct, f_S_performJumpToS, f_S_performJumpToS_b25, f_S_numberK, hk, vS a b h w, vT a b h w, nD_eq, nA_eq, f_S_give, f_S_giveIfExact, f_S_giveTruth, f_S_giveTruth_b11, f_S_keepHighAndLow, f_S_branchIf, bnd, bnv, zb_0, zb_1, if_true, if_false, he, ltu_eq]
    · simp (decide := true) only [trb, f_D_isKnown, f_D_isKnown_b36, f_D_isKnown_b37, f_D_isKnown_b96, f_D_isKnown_b114, f_D_isKnown_b132, f_D_trouble_b24, f_D_trouble_b57, f_D_trouble_b83, f_D_trouble_b87, f_D_trouble_b88, f_D_exact, zb_0, zb_1, rd_18, rd_19, rd_20, rd_21, ho, hk, if_true, if_false]
    · simp (decide := true) only [f_D_act, f_D_byRegisters, f_D_byRegisters_b172, f_D_byRegisters_b226, f_D_byRegisters_b204, f_D_byRegisters_b253, f_D_byRegisters_b233, f_D_byRegisters_b276, f_D_byRegisters_b261, f_D_byRegisters_b297, f_D_byRegisters_b282, f_D_byRegisters_b303, f_D_byRegisters_b320, f_D_byRegisters_b425, f_D_byRegisters_b452, f_D_byRegisters_b458, f_D_shifts, f_D_shifts_b28, f_D_shifts_b74, rd_17, rd_18, rd_19, rd_20, rd_21, ho, hk, f_D_gives, bnv, obv, zb_0, zb_1, if_true, if_false, he, f_D_less]
  · refine ⟨_, _, ?_, ?_, ?_, fin_give a b h w (qD w) 1 (q34 _) (by rw [ho, hk]; rfl)⟩
    · simp (decide := true) only [f_S_perform_b30, f_S_orderOf, ho, f_S_performByK, f_S_performByK_b132, f_S_performByK_b138, f_S_performByK_b150, f_S_performByK_b156, f_S_performByK_b162, f_S_performShift, f_S_performShift_b124, f_S_performOnTwo, f_S_performOnTwo_b183, f_S_performOnTwo_b207, f_S_performMove, f_S_performProduct, f_S_performJumpToS, f_S_performJumpToS_b25, f_S_numberK, hk, vS a b h w, vT a b h w, nD_eq, nA_eq, f_S_give, f_S_giveIfExact, f_S_giveTruth, f_S_giveTruth_b11, f_S_keepHighAndLow, f_S_branchIf, bnd, bnv, zb_0, zb_1, if_true, if_false, he, ltu_eq]
    · simp (decide := true) only [trb, f_D_isKnown, f_D_isKnown_b36, f_D_isKnown_b37, f_D_isKnown_b96, f_D_isKnown_b114, f_D_isKnown_b132, f_D_trouble_b24, f_D_trouble_b57, f_D_trouble_b83, f_D_trouble_b87, f_D_trouble_b88, f_D_exact, zb_0, zb_1, rd_18, rd_19, rd_20, rd_21, ho, hk, if_true, if_false]
    · simp (decide := true) only [f_D_act, f_D_byRegisters, f_D_byRegisters_b172, f_D_byRegisters_b226, f_D_byRegisters_b204, f_D_byRegisters_b253, f_D_byRegisters_b233, f_D_byRegisters_b276, f_D_byRegisters_b261, f_D_byRegisters_b297, f_D_byRegisters_b282, f_D_byRegisters_b303, f_D_byRegisters_b320, f_D_byRegisters_b425, f_D_byRegisters_b452, f_D_byRegisters_b458, f_D_shifts, f_D_shifts_b28, f_D_shifts_b74, rd_17, rd_18, rd_19, rd_20, rd_21, ho, hk, f_D_gives, bnv, obv, zb_0, zb_1, if_true, if_false, he, f_D_less]
theorem i0_16 (a b : St) (h : Rel a b) (w : Int32) (ho : ush w (26 : Int32) = 0) (hk : w &&& (63 : Int32) = 16) : Per (f_S_perform_b30 w (bg a)) (rd b w) := by
  right
  refine ⟨_, _, ?_, ?_, ?_, fin_give a b h w (qD w) (b 2 32) (q34 _) (by rw [ho, hk]; rfl)⟩
  · simp (decide := true) only [f_S_perform_b30, f_S_orderOf, ho, f_S_performByK, f_S_performByK_b132, f_S_performByK_b138, f_S_performByK_b150, f_S_performByK_b156, f_S_performByK_b162, f_S_performShift, f_S_performShift_b124, f_S_performOnTwo, f_S_performOnTwo_b183, f_S_performOnTwo_b207, f_S_performMove, f_S_performProduct, f_S_performJumpToS, f_S_performJumpToS_b25, f_S_numberK, hk, vS a b h w, vT a b h w, nD_eq, nA_eq, f_S_give, f_S_giveIfExact, f_S_giveTruth, f_S_giveTruth_b11, f_S_keepHighAndLow, f_S_branchIf, bnd, bnv, zb_0, zb_1, if_true, if_false, vH32 a b h]
  · simp (decide := true) only [trb, f_D_isKnown, f_D_isKnown_b36, f_D_isKnown_b37, f_D_isKnown_b96, f_D_isKnown_b114, f_D_isKnown_b132, f_D_trouble_b24, f_D_trouble_b57, f_D_trouble_b83, f_D_trouble_b87, f_D_trouble_b88, f_D_exact, zb_0, zb_1, rd_18, rd_19, rd_20, rd_21, ho, hk, if_true, if_false]
  · simp (decide := true) only [f_D_act, f_D_byRegisters, f_D_byRegisters_b172, f_D_byRegisters_b226, f_D_byRegisters_b204, f_D_byRegisters_b253, f_D_byRegisters_b233, f_D_byRegisters_b276, f_D_byRegisters_b261, f_D_byRegisters_b297, f_D_byRegisters_b282, f_D_byRegisters_b303, f_D_byRegisters_b320, f_D_byRegisters_b425, f_D_byRegisters_b452, f_D_byRegisters_b458, f_D_shifts, f_D_shifts_b28, f_D_shifts_b74, rd_17, rd_18, rd_19, rd_20, rd_21, ho, hk, f_D_gives, bnv, obv, zb_0, zb_1, if_true, if_false, my_tn32, rd_j b w 2 (by decide)]
theorem i0_18 (a b : St) (h : Rel a b) (w : Int32) (ho : ush w (26 : Int32) = 0) (hk : w &&& (63 : Int32) = 18) : Per (f_S_perform_b30 w (bg a)) (rd b w) := by
  right
  refine ⟨_, _, ?_, ?_, ?_, fin_give a b h w (qD w) (b 2 33) (q34 _) (by rw [ho, hk]; rfl)⟩
  · simp (decide := true) only [f_S_perform_b30, f_S_orderOf, ho, f_S_performByK, f_S_performByK_b132, f_S_performByK_b138, f_S_performByK_b150, f_S_performByK_b156, f_S_performByK_b162, f_S_performShift, f_S_performShift_b124, f_S_performOnTwo, f_S_performOnTwo_b183, f_S_performOnTwo_b207, f_S_performMove, f_S_performProduct, f_S_performJumpToS, f_S_performJumpToS_b25, f_S_numberK, hk, vS a b h w, vT a b h w, nD_eq, nA_eq, f_S_give, f_S_giveIfExact, f_S_giveTruth, f_S_giveTruth_b11, f_S_keepHighAndLow, f_S_branchIf, bnd, bnv, zb_0, zb_1, if_true, if_false, vH33 a b h]
  · simp (decide := true) only [trb, f_D_isKnown, f_D_isKnown_b36, f_D_isKnown_b37, f_D_isKnown_b96, f_D_isKnown_b114, f_D_isKnown_b132, f_D_trouble_b24, f_D_trouble_b57, f_D_trouble_b83, f_D_trouble_b87, f_D_trouble_b88, f_D_exact, zb_0, zb_1, rd_18, rd_19, rd_20, rd_21, ho, hk, if_true, if_false]
  · simp (decide := true) only [f_D_act, f_D_byRegisters, f_D_byRegisters_b172, f_D_byRegisters_b226, f_D_byRegisters_b204, f_D_byRegisters_b253, f_D_byRegisters_b233, f_D_byRegisters_b276, f_D_byRegisters_b261, f_D_byRegisters_b297, f_D_byRegisters_b282, f_D_byRegisters_b303, f_D_byRegisters_b320, f_D_byRegisters_b425, f_D_byRegisters_b452, f_D_byRegisters_b458, f_D_shifts, f_D_shifts_b28, f_D_shifts_b74, rd_17, rd_18, rd_19, rd_20, rd_21, ho, hk, f_D_gives, bnv, obv, zb_0, zb_1, if_true, if_false, my_tn33, rd_j b w 2 (by decide)]
theorem i0_17 (a b : St) (h : Rel a b) (w : Int32) (ho : ush w (26 : Int32) = 0) (hk : w &&& (63 : Int32) = 17) : Per (f_S_perform_b30 w (bg a)) (rd b w) := by
  right
  have b6 := bg_6 a
  refine ⟨_, _, ?_, ?_, ?_, fin3 (bg a) (rd b w) (rel_bg a b w h) 32 (sv b w) (by decide) (by rw [isB_eq, rd_17, rd_18, rd_21, ho, hk, b6.2.2.1]; rfl) (by rw [b6.2.1]; rfl) (by rw [b6.2.2.2, rd_26, h.1.2.1]) (rd_24 b w) (rd_25 b w) (rd_22 b w)⟩
  · simp (decide := true) only [f_S_perform_b30, f_S_orderOf, ho, f_S_performByK, f_S_performByK_b132, f_S_performByK_b138, f_S_performByK_b150, f_S_performByK_b156, f_S_performByK_b162, f_S_performShift, f_S_performShift_b124, f_S_performOnTwo, f_S_performOnTwo_b183, f_S_performOnTwo_b207, f_S_performMove, f_S_performProduct, f_S_performJumpToS, f_S_performJumpToS_b25, f_S_numberK, hk, vS a b h w, vT a b h w, nD_eq, nA_eq, f_S_give, f_S_giveIfExact, f_S_giveTruth, f_S_giveTruth_b11, f_S_keepHighAndLow, f_S_branchIf, bnd, bnv, zb_0, zb_1, if_true, if_false]
    rfl
  · simp (decide := true) only [trb, f_D_isKnown, f_D_isKnown_b36, f_D_isKnown_b37, f_D_isKnown_b96, f_D_isKnown_b114, f_D_isKnown_b132, f_D_trouble_b24, f_D_trouble_b57, f_D_trouble_b83, f_D_trouble_b87, f_D_trouble_b88, f_D_exact, zb_0, zb_1, rd_18, rd_19, rd_20, rd_21, ho, hk, if_true, if_false]
  · simp (decide := true) only [f_D_act, f_D_byRegisters, f_D_byRegisters_b172, f_D_byRegisters_b226, f_D_byRegisters_b204, f_D_byRegisters_b253, f_D_byRegisters_b233, f_D_byRegisters_b276, f_D_byRegisters_b261, f_D_byRegisters_b297, f_D_byRegisters_b282, f_D_byRegisters_b303, f_D_byRegisters_b320, f_D_byRegisters_b425, f_D_byRegisters_b452, f_D_byRegisters_b458, f_D_shifts, f_D_shifts_b28, f_D_shifts_b74, rd_17, rd_18, rd_19, rd_20, rd_21, ho, hk, f_D_gives, bnv, obv, zb_0, zb_1, if_true, if_false, my_tn32]
theorem i0_19 (a b : St) (h : Rel a b) (w : Int32) (ho : ush w (26 : Int32) = 0) (hk : w &&& (63 : Int32) = 19) : Per (f_S_perform_b30 w (bg a)) (rd b w) := by
  right
  have b6 := bg_6 a
  refine ⟨_, _, ?_, ?_, ?_, fin3 (bg a) (rd b w) (rel_bg a b w h) 33 (sv b w) (by decide) (by rw [isB_eq, rd_17, rd_18, rd_21, ho, hk, b6.2.2.1]; rfl) (by rw [b6.2.1]; rfl) (by rw [b6.2.2.2, rd_26, h.1.2.1]) (rd_24 b w) (rd_25 b w) (rd_22 b w)⟩
  · simp (decide := true) only [f_S_perform_b30, f_S_orderOf, ho, f_S_performByK, f_S_performByK_b132, f_S_performByK_b138, f_S_performByK_b150, f_S_performByK_b156, f_S_performByK_b162, f_S_performShift, f_S_performShift_b124, f_S_performOnTwo, f_S_performOnTwo_b183, f_S_performOnTwo_b207, f_S_performMove, f_S_performProduct, f_S_performJumpToS, f_S_performJumpToS_b25, f_S_numberK, hk, vS a b h w, vT a b h w, nD_eq, nA_eq, f_S_give, f_S_giveIfExact, f_S_giveTruth, f_S_giveTruth_b11, f_S_keepHighAndLow, f_S_branchIf, bnd, bnv, zb_0, zb_1, if_true, if_false]
    rfl
  · simp (decide := true) only [trb, f_D_isKnown, f_D_isKnown_b36, f_D_isKnown_b37, f_D_isKnown_b96, f_D_isKnown_b114, f_D_isKnown_b132, f_D_trouble_b24, f_D_trouble_b57, f_D_trouble_b83, f_D_trouble_b87, f_D_trouble_b88, f_D_exact, zb_0, zb_1, rd_18, rd_19, rd_20, rd_21, ho, hk, if_true, if_false]
  · simp (decide := true) only [f_D_act, f_D_byRegisters, f_D_byRegisters_b172, f_D_byRegisters_b226, f_D_byRegisters_b204, f_D_byRegisters_b253, f_D_byRegisters_b233, f_D_byRegisters_b276, f_D_byRegisters_b261, f_D_byRegisters_b297, f_D_byRegisters_b282, f_D_byRegisters_b303, f_D_byRegisters_b320, f_D_byRegisters_b425, f_D_byRegisters_b452, f_D_byRegisters_b458, f_D_shifts, f_D_shifts_b28, f_D_shifts_b74, rd_17, rd_18, rd_19, rd_20, rd_21, ho, hk, f_D_gives, bnv, obv, zb_0, zb_1, if_true, if_false, my_tn33]
theorem i0_8 (a b : St) (h : Rel a b) (w : Int32) (ho : ush w (26 : Int32) = 0) (hk : w &&& (63 : Int32) = 8) : Per (f_S_perform_b30 w (bg a)) (rd b w) := by
  right
  refine ⟨_, _, ?_, ?_, ?_, fin_br a b h w (sv b w) (by rw [ho, hk]; rfl)⟩
  · simp (decide := true) only [f_S_perform_b30, f_S_orderOf, ho, f_S_performByK, f_S_performByK_b132, f_S_performByK_b138, f_S_performByK_b150, f_S_performByK_b156, f_S_performByK_b162, f_S_performShift, f_S_performShift_b124, f_S_performOnTwo, f_S_performOnTwo_b183, f_S_performOnTwo_b207, f_S_performMove, f_S_performProduct, f_S_performJumpToS, f_S_performJumpToS_b25, f_S_numberK, hk, vS a b h w, vT a b h w, nD_eq, nA_eq, f_S_give, f_S_giveIfExact, f_S_giveTruth, f_S_giveTruth_b11, f_S_keepHighAndLow, f_S_branchIf, bnd, bnv, zb_0, zb_1, if_true, if_false]
  · simp (decide := true) only [trb, f_D_isKnown, f_D_isKnown_b36, f_D_isKnown_b37, f_D_isKnown_b96, f_D_isKnown_b114, f_D_isKnown_b132, f_D_trouble_b24, f_D_trouble_b57, f_D_trouble_b83, f_D_trouble_b87, f_D_trouble_b88, f_D_exact, zb_0, zb_1, rd_18, rd_19, rd_20, rd_21, ho, hk, if_true, if_false]
  · simp (decide := true) only [f_D_act, f_D_byRegisters, f_D_byRegisters_b172, f_D_byRegisters_b226, f_D_byRegisters_b204, f_D_byRegisters_b253, f_D_byRegisters_b233, f_D_byRegisters_b276, f_D_byRegisters_b261, f_D_byRegisters_b297, f_D_byRegisters_b282, f_D_byRegisters_b303, f_D_byRegisters_b320, f_D_byRegisters_b425, f_D_byRegisters_b452, f_D_byRegisters_b458, f_D_shifts, f_D_shifts_b28, f_D_shifts_b74, rd_17, rd_18, rd_19, rd_20, rd_21, ho, hk, f_D_gives, bnv, obv, zb_0, zb_1, if_true, if_false]
theorem i0_9 (a b : St) (h : Rel a b) (w : Int32) (ho : ush w (26 : Int32) = 0) (hk : w &&& (63 : Int32) = 9) : Per (f_S_perform_b30 w (bg a)) (rd b w) := by
  right
  have e4 : bg a 0 4 = b 0 3 := by rw [bg_j a 0 (by decide)]; exact h.1.1
  refine ⟨_, _, ?_, ?_, ?_, fin_brl a b h w (qD w) (b 0 3 + 8) (sv b w) (q34 _) (by rw [ho, hk]; rfl)⟩
  · simp (decide := true) only [f_S_perform_b30, f_S_orderOf, ho, f_S_performByK, f_S_performByK_b132, f_S_performByK_b138, f_S_performByK_b150, f_S_performByK_b156, f_S_performByK_b162, f_S_performShift, f_S_performShift_b124, f_S_performOnTwo, f_S_performOnTwo_b183, f_S_performOnTwo_b207, f_S_performMove, f_S_performProduct, f_S_performJumpToS, f_S_performJumpToS_b25, f_S_numberK, hk, vS a b h w, vT a b h w, nD_eq, nA_eq, f_S_give, f_S_giveIfExact, f_S_giveTruth, f_S_giveTruth_b11, f_S_keepHighAndLow, f_S_branchIf, bnd, bnv, zb_0, zb_1, if_true, if_false, vS_out, e4]
  · simp (decide := true) only [trb, f_D_isKnown, f_D_isKnown_b36, f_D_isKnown_b37, f_D_isKnown_b96, f_D_isKnown_b114, f_D_isKnown_b132, f_D_trouble_b24, f_D_trouble_b57, f_D_trouble_b83, f_D_trouble_b87, f_D_trouble_b88, f_D_exact, zb_0, zb_1, rd_18, rd_19, rd_20, rd_21, ho, hk, if_true, if_false]
  · simp (decide := true) only [f_D_act, f_D_byRegisters, f_D_byRegisters_b172, f_D_byRegisters_b226, f_D_byRegisters_b204, f_D_byRegisters_b253, f_D_byRegisters_b233, f_D_byRegisters_b276, f_D_byRegisters_b261, f_D_byRegisters_b297, f_D_byRegisters_b282, f_D_byRegisters_b303, f_D_byRegisters_b320, f_D_byRegisters_b425, f_D_byRegisters_b452, f_D_byRegisters_b458, f_D_shifts, f_D_shifts_b28, f_D_shifts_b74, rd_17, rd_18, rd_19, rd_20, rd_21, ho, hk, f_D_gives, bnv, obv, zb_0, zb_1, if_true, if_false, sU_at, rd_lo b w 3 (by decide)]
theorem i0_24 (a b : St) (h : Rel a b) (w : Int32) (ho : ush w (26 : Int32) = 0) (hk : w &&& (63 : Int32) = 24) : Per (f_S_perform_b30 w (bg a)) (rd b w) := by
  right
  refine ⟨_, _, ?_, ?_, ?_, fin_hl a b h w (((sv b w).toInt64 * (tv b w).toInt64) >>> ((32 : Int32).toInt64 &&& 63)).toInt32 ((sv b w).toInt64 * (tv b w).toInt64).toInt32 (by rw [ho, hk]; rfl)⟩
  · simp (decide := true) only [f_S_perform_b30, f_S_orderOf, ho, f_S_performByK, f_S_performByK_b132, f_S_performByK_b138, f_S_performByK_b150, f_S_performByK_b156, f_S_performByK_b162, f_S_performShift, f_S_performShift_b124, f_S_performOnTwo, f_S_performOnTwo_b183, f_S_performOnTwo_b207, f_S_performMove, f_S_performProduct, f_S_performJumpToS, f_S_performJumpToS_b25, f_S_numberK, hk, vS a b h w, vT a b h w, nD_eq, nA_eq, f_S_give, f_S_giveIfExact, f_S_giveTruth, f_S_giveTruth_b11, f_S_keepHighAndLow, f_S_branchIf, bnd, bnv, zb_0, zb_1, if_true, if_false, f_S_withoutSign, f_R_change, my_tn32, my_tn33]
  · simp (decide := true) only [trb, f_D_isKnown, f_D_isKnown_b36, f_D_isKnown_b37, f_D_isKnown_b96, f_D_isKnown_b114, f_D_isKnown_b132, f_D_trouble_b24, f_D_trouble_b57, f_D_trouble_b83, f_D_trouble_b87, f_D_trouble_b88, f_D_exact, zb_0, zb_1, rd_18, rd_19, rd_20, rd_21, ho, hk, if_true, if_false]
  · simp (decide := true) only [f_D_act, f_D_byRegisters, f_D_byRegisters_b172, f_D_byRegisters_b226, f_D_byRegisters_b204, f_D_byRegisters_b253, f_D_byRegisters_b233, f_D_byRegisters_b276, f_D_byRegisters_b261, f_D_byRegisters_b297, f_D_byRegisters_b282, f_D_byRegisters_b303, f_D_byRegisters_b320, f_D_byRegisters_b425, f_D_byRegisters_b452, f_D_byRegisters_b458, f_D_shifts, f_D_shifts_b28, f_D_shifts_b74, rd_17, rd_18, rd_19, rd_20, rd_21, ho, hk, f_D_gives, bnv, obv, zb_0, zb_1, if_true, if_false, f_D_multiply, f_D_multiply_b21, f_D_multiply_b43]
theorem i0_25 (a b : St) (h : Rel a b) (w : Int32) (ho : ush w (26 : Int32) = 0) (hk : w &&& (63 : Int32) = 25) : Per (f_S_perform_b30 w (bg a)) (rd b w) := by
  right
  refine ⟨_, _, ?_, ?_, ?_, fin_hl a b h w ((((sv b w).toInt64 &&& (4294967295 : Int64)) * ((tv b w).toInt64 &&& (4294967295 : Int64))) >>> ((32 : Int32).toInt64 &&& 63)).toInt32 (((sv b w).toInt64 &&& (4294967295 : Int64)) * ((tv b w).toInt64 &&& (4294967295 : Int64))).toInt32 (by rw [ho, hk]; rfl)⟩
  · simp (decide := true) only [f_S_perform_b30, f_S_orderOf, ho, f_S_performByK, f_S_performByK_b132, f_S_performByK_b138, f_S_performByK_b150, f_S_performByK_b156, f_S_performByK_b162, f_S_performShift, f_S_performShift_b124, f_S_performOnTwo, f_S_performOnTwo_b183, f_S_performOnTwo_b207, f_S_performMove, f_S_performProduct, f_S_performJumpToS, f_S_performJumpToS_b25, f_S_numberK, hk, vS a b h w, vT a b h w, nD_eq, nA_eq, f_S_give, f_S_giveIfExact, f_S_giveTruth, f_S_giveTruth_b11, f_S_keepHighAndLow, f_S_branchIf, bnd, bnv, zb_0, zb_1, if_true, if_false, f_S_withoutSign, f_R_change, my_tn32, my_tn33]
  · simp (decide := true) only [trb, f_D_isKnown, f_D_isKnown_b36, f_D_isKnown_b37, f_D_isKnown_b96, f_D_isKnown_b114, f_D_isKnown_b132, f_D_trouble_b24, f_D_trouble_b57, f_D_trouble_b83, f_D_trouble_b87, f_D_trouble_b88, f_D_exact, zb_0, zb_1, rd_18, rd_19, rd_20, rd_21, ho, hk, if_true, if_false]
  · simp (decide := true) only [f_D_act, f_D_byRegisters, f_D_byRegisters_b172, f_D_byRegisters_b226, f_D_byRegisters_b204, f_D_byRegisters_b253, f_D_byRegisters_b233, f_D_byRegisters_b276, f_D_byRegisters_b261, f_D_byRegisters_b297, f_D_byRegisters_b282, f_D_byRegisters_b303, f_D_byRegisters_b320, f_D_byRegisters_b425, f_D_byRegisters_b452, f_D_byRegisters_b458, f_D_shifts, f_D_shifts_b28, f_D_shifts_b74, rd_17, rd_18, rd_19, rd_20, rd_21, ho, hk, f_D_gives, bnv, obv, zb_0, zb_1, if_true, if_false, f_D_multiply, f_D_multiply_b21, f_D_multiply_b43]
theorem i0_26 (a b : St) (h : Rel a b) (w : Int32) (ho : ush w (26 : Int32) = 0) (hk : w &&& (63 : Int32) = 26) : Per (f_S_perform_b30 w (bg a)) (rd b w) := by
  right
  by_cases hz : tv b w = 0
  · by_cases hs : (0 : Int32) ≤ sv b w
    · refine ⟨_, _, ?_, ?_, ?_, fin_lh a b h w (sv b w) (-1) (by rw [ho, hk]; rfl)⟩
      · simp (decide := true) only [f_S_perform_b30, f_S_orderOf, ho, f_S_performByK, f_S_performByK_b132, f_S_performByK_b138, f_S_performByK_b150, f_S_performByK_b156, f_S_performByK_b162, f_S_performShift, f_S_performShift_b124, f_S_performOnTwo, f_S_performOnTwo_b183, f_S_performOnTwo_b207, f_S_performMove, f_S_performProduct, f_S_performJumpToS, f_S_performJumpToS_b25, f_S_numberK, hk, vS a b h w, vT a b h w, nD_eq, nA_eq, f_S_give, f_S_giveIfExact, f_S_giveTruth, f_S_giveTruth_b11, f_S_keepHighAndLow, f_S_branchIf, bnd, bnv, zb_0, zb_1, if_true, if_false, f_S_divide, f_S_divide_b17, f_S_divideWithoutSign, f_S_withoutSign, rq_hi, rq_lo, i2l2i, l1i, lm1i, f_R_change, my_tn32, my_tn33, hz, hs]
      · simp (decide := true) only [trb, f_D_isKnown, f_D_isKnown_b36, f_D_isKnown_b37, f_D_isKnown_b96, f_D_isKnown_b114, f_D_isKnown_b132, f_D_trouble_b24, f_D_trouble_b57, f_D_trouble_b83, f_D_trouble_b87, f_D_trouble_b88, f_D_exact, zb_0, zb_1, rd_18, rd_19, rd_20, rd_21, ho, hk, if_true, if_false]
      · simp (decide := true) only [f_D_act, f_D_byRegisters, f_D_byRegisters_b172, f_D_byRegisters_b226, f_D_byRegisters_b204, f_D_byRegisters_b253, f_D_byRegisters_b233, f_D_byRegisters_b276, f_D_byRegisters_b261, f_D_byRegisters_b297, f_D_byRegisters_b282, f_D_byRegisters_b303, f_D_byRegisters_b320, f_D_byRegisters_b425, f_D_byRegisters_b452, f_D_byRegisters_b458, f_D_shifts, f_D_shifts_b28, f_D_shifts_b74, rd_17, rd_18, rd_19, rd_20, rd_21, ho, hk, f_D_gives, bnv, obv, zb_0, zb_1, if_true, if_false, f_D_divide, f_D_divide_b28, f_D_divide_b29, f_D_divide_b63, f_D_divide_b85, my_tn33, hz, hs]
    · refine ⟨_, _, ?_, ?_, ?_, fin_lh a b h w (sv b w) (1) (by rw [ho, hk]; rfl)⟩
      · simp (decide := true) only [f_S_perform_b30, f_S_orderOf, ho, f_S_performByK, f_S_performByK_b132, f_S_performByK_b138, f_S_performByK_b150, f_S_performByK_b156, f_S_performByK_b162, f_S_performShift, f_S_performShift_b124, f_S_performOnTwo, f_S_performOnTwo_b183, f_S_performOnTwo_b207, f_S_performMove, f_S_performProduct, f_S_performJumpToS, f_S_performJumpToS_b25, f_S_numberK, hk, vS a b h w, vT a b h w, nD_eq, nA_eq, f_S_give, f_S_giveIfExact, f_S_giveTruth, f_S_giveTruth_b11, f_S_keepHighAndLow, f_S_branchIf, bnd, bnv, zb_0, zb_1, if_true, if_false, f_S_divide, f_S_divide_b17, f_S_divideWithoutSign, f_S_withoutSign, rq_hi, rq_lo, i2l2i, l1i, lm1i, f_R_change, my_tn32, my_tn33, hz, hs]
      · simp (decide := true) only [trb, f_D_isKnown, f_D_isKnown_b36, f_D_isKnown_b37, f_D_isKnown_b96, f_D_isKnown_b114, f_D_isKnown_b132, f_D_trouble_b24, f_D_trouble_b57, f_D_trouble_b83, f_D_trouble_b87, f_D_trouble_b88, f_D_exact, zb_0, zb_1, rd_18, rd_19, rd_20, rd_21, ho, hk, if_true, if_false]
      · simp (decide := true) only [f_D_act, f_D_byRegisters, f_D_byRegisters_b172, f_D_byRegisters_b226, f_D_byRegisters_b204, f_D_byRegisters_b253, f_D_byRegisters_b233, f_D_byRegisters_b276, f_D_byRegisters_b261, f_D_byRegisters_b297, f_D_byRegisters_b282, f_D_byRegisters_b303, f_D_byRegisters_b320, f_D_byRegisters_b425, f_D_byRegisters_b452, f_D_byRegisters_b458, f_D_shifts, f_D_shifts_b28, f_D_shifts_b74, rd_17, rd_18, rd_19, rd_20, rd_21, ho, hk, f_D_gives, bnv, obv, zb_0, zb_1, if_true, if_false, f_D_divide, f_D_divide_b28, f_D_divide_b29, f_D_divide_b63, f_D_divide_b85, my_tn33, hz, hs]
  · have hn : ¬ (tv b w).toInt64 = 0 := my_nz hz
    refine ⟨_, _, ?_, ?_, ?_, fin_lh a b h w (((sv b w).toInt64 - (sv b w).toInt64 / (tv b w).toInt64 * (tv b w).toInt64).toInt32) (((sv b w).toInt64 / (tv b w).toInt64).toInt32) (by rw [ho, hk]; rfl)⟩
    · simp (decide := true) only [f_S_perform_b30, f_S_orderOf, ho, f_S_performByK, f_S_performByK_b132, f_S_performByK_b138, f_S_performByK_b150, f_S_performByK_b156, f_S_performByK_b162, f_S_performShift, f_S_performShift_b124, f_S_performOnTwo, f_S_performOnTwo_b183, f_S_performOnTwo_b207, f_S_performMove, f_S_performProduct, f_S_performJumpToS, f_S_performJumpToS_b25, f_S_numberK, hk, vS a b h w, vT a b h w, nD_eq, nA_eq, f_S_give, f_S_giveIfExact, f_S_giveTruth, f_S_giveTruth_b11, f_S_keepHighAndLow, f_S_branchIf, bnd, bnv, zb_0, zb_1, if_true, if_false, f_S_divide, f_S_divide_b17, f_S_divideWithoutSign, f_S_withoutSign, rq_hi, rq_lo, i2l2i, l1i, lm1i, f_R_change, my_tn32, my_tn33, hz, hn]
    · simp (decide := true) only [trb, f_D_isKnown, f_D_isKnown_b36, f_D_isKnown_b37, f_D_isKnown_b96, f_D_isKnown_b114, f_D_isKnown_b132, f_D_trouble_b24, f_D_trouble_b57, f_D_trouble_b83, f_D_trouble_b87, f_D_trouble_b88, f_D_exact, zb_0, zb_1, rd_18, rd_19, rd_20, rd_21, ho, hk, if_true, if_false]
    · simp (decide := true) only [f_D_act, f_D_byRegisters, f_D_byRegisters_b172, f_D_byRegisters_b226, f_D_byRegisters_b204, f_D_byRegisters_b253, f_D_byRegisters_b233, f_D_byRegisters_b276, f_D_byRegisters_b261, f_D_byRegisters_b297, f_D_byRegisters_b282, f_D_byRegisters_b303, f_D_byRegisters_b320, f_D_byRegisters_b425, f_D_byRegisters_b452, f_D_byRegisters_b458, f_D_shifts, f_D_shifts_b28, f_D_shifts_b74, rd_17, rd_18, rd_19, rd_20, rd_21, ho, hk, f_D_gives, bnv, obv, zb_0, zb_1, if_true, if_false, f_D_divide, f_D_divide_b28, f_D_divide_b29, f_D_divide_b63, f_D_divide_b85, my_tn33, hz, hn]
theorem i0_27 (a b : St) (h : Rel a b) (w : Int32) (ho : ush w (26 : Int32) = 0) (hk : w &&& (63 : Int32) = 27) : Per (f_S_perform_b30 w (bg a)) (rd b w) := by
  right
  by_cases hz : tv b w = 0
  · refine ⟨_, _, ?_, ?_, ?_, fin_lh a b h w (sv b w) (-1) (by rw [ho, hk]; rfl)⟩
    · simp (decide := true) only [f_S_perform_b30, f_S_orderOf, ho, f_S_performByK, f_S_performByK_b132, f_S_performByK_b138, f_S_performByK_b150, f_S_performByK_b156, f_S_performByK_b162, f_S_performShift, f_S_performShift_b124, f_S_performOnTwo, f_S_performOnTwo_b183, f_S_performOnTwo_b207, f_S_performMove, f_S_performProduct, f_S_performJumpToS, f_S_performJumpToS_b25, f_S_numberK, hk, vS a b h w, vT a b h w, nD_eq, nA_eq, f_S_give, f_S_giveIfExact, f_S_giveTruth, f_S_giveTruth_b11, f_S_keepHighAndLow, f_S_branchIf, bnd, bnv, zb_0, zb_1, if_true, if_false, f_S_divide, f_S_divide_b17, f_S_divideWithoutSign, f_S_withoutSign, rq_hi, rq_lo, i2l2i, l1i, lm1i, f_R_change, my_tn32, my_tn33, hz]
    · simp (decide := true) only [trb, f_D_isKnown, f_D_isKnown_b36, f_D_isKnown_b37, f_D_isKnown_b96, f_D_isKnown_b114, f_D_isKnown_b132, f_D_trouble_b24, f_D_trouble_b57, f_D_trouble_b83, f_D_trouble_b87, f_D_trouble_b88, f_D_exact, zb_0, zb_1, rd_18, rd_19, rd_20, rd_21, ho, hk, if_true, if_false]
    · simp (decide := true) only [f_D_act, f_D_byRegisters, f_D_byRegisters_b172, f_D_byRegisters_b226, f_D_byRegisters_b204, f_D_byRegisters_b253, f_D_byRegisters_b233, f_D_byRegisters_b276, f_D_byRegisters_b261, f_D_byRegisters_b297, f_D_byRegisters_b282, f_D_byRegisters_b303, f_D_byRegisters_b320, f_D_byRegisters_b425, f_D_byRegisters_b452, f_D_byRegisters_b458, f_D_shifts, f_D_shifts_b28, f_D_shifts_b74, rd_17, rd_18, rd_19, rd_20, rd_21, ho, hk, f_D_gives, bnv, obv, zb_0, zb_1, if_true, if_false, f_D_divide, f_D_divide_b28, f_D_divide_b29, f_D_divide_b63, f_D_divide_b85, my_tn33, hz]
  · have hn : ¬ ((tv b w).toInt64 &&& (4294967295 : Int64)) = 0 := my_nzu hz
    refine ⟨_, _, ?_, ?_, ?_, fin_lh a b h w ((((sv b w).toInt64 &&& (4294967295 : Int64)) - ((sv b w).toInt64 &&& (4294967295 : Int64)) / ((tv b w).toInt64 &&& (4294967295 : Int64)) * ((tv b w).toInt64 &&& (4294967295 : Int64))).toInt32) ((((sv b w).toInt64 &&& (4294967295 : Int64)) / ((tv b w).toInt64 &&& (4294967295 : Int64))).toInt32) (by rw [ho, hk]; rfl)⟩
    · simp (decide := true) only [f_S_perform_b30, f_S_orderOf, ho, f_S_performByK, f_S_performByK_b132, f_S_performByK_b138, f_S_performByK_b150, f_S_performByK_b156, f_S_performByK_b162, f_S_performShift, f_S_performShift_b124, f_S_performOnTwo, f_S_performOnTwo_b183, f_S_performOnTwo_b207, f_S_performMove, f_S_performProduct, f_S_performJumpToS, f_S_performJumpToS_b25, f_S_numberK, hk, vS a b h w, vT a b h w, nD_eq, nA_eq, f_S_give, f_S_giveIfExact, f_S_giveTruth, f_S_giveTruth_b11, f_S_keepHighAndLow, f_S_branchIf, bnd, bnv, zb_0, zb_1, if_true, if_false, f_S_divide, f_S_divide_b17, f_S_divideWithoutSign, f_S_withoutSign, rq_hi, rq_lo, i2l2i, l1i, lm1i, f_R_change, my_tn32, my_tn33, hz, hn]
    · simp (decide := true) only [trb, f_D_isKnown, f_D_isKnown_b36, f_D_isKnown_b37, f_D_isKnown_b96, f_D_isKnown_b114, f_D_isKnown_b132, f_D_trouble_b24, f_D_trouble_b57, f_D_trouble_b83, f_D_trouble_b87, f_D_trouble_b88, f_D_exact, zb_0, zb_1, rd_18, rd_19, rd_20, rd_21, ho, hk, if_true, if_false]
    · simp (decide := true) only [f_D_act, f_D_byRegisters, f_D_byRegisters_b172, f_D_byRegisters_b226, f_D_byRegisters_b204, f_D_byRegisters_b253, f_D_byRegisters_b233, f_D_byRegisters_b276, f_D_byRegisters_b261, f_D_byRegisters_b297, f_D_byRegisters_b282, f_D_byRegisters_b303, f_D_byRegisters_b320, f_D_byRegisters_b425, f_D_byRegisters_b452, f_D_byRegisters_b458, f_D_shifts, f_D_shifts_b28, f_D_shifts_b74, rd_17, rd_18, rd_19, rd_20, rd_21, ho, hk, f_D_gives, bnv, obv, zb_0, zb_1, if_true, if_false, f_D_divide, f_D_divide_b28, f_D_divide_b29, f_D_divide_b63, f_D_divide_b85, my_tn33, hz, hn]
theorem i0_1 (a b : St) (h : Rel a b) (w : Int32) (ho : ush w (26 : Int32) = 0) (hk : w &&& (63 : Int32) = 1) : Per (f_S_perform_b30 w (bg a)) (rd b w) := by
  left
  refine ⟨(10 : Int32), _, _, ⟨sm10, by decide, by decide, by decide, by decide⟩, ?_, ?_, rel_bg a b w h⟩
  · simp (decide := true) only [f_S_perform_b30, f_S_orderOf, ho, f_S_performByK, f_S_performByK_b132, f_S_performByK_b138, f_S_performByK_b150, f_S_performByK_b156, f_S_performByK_b162, f_S_performShift, f_S_performShift_b124, f_S_performOnTwo, f_S_performOnTwo_b183, f_S_performOnTwo_b207, f_S_performMove, f_S_performProduct, f_S_performJumpToS, f_S_performJumpToS_b25, f_S_numberK, hk, vS a b h w, vT a b h w, nD_eq, nA_eq, f_S_give, f_S_giveIfExact, f_S_giveTruth, f_S_giveTruth_b11, f_S_keepHighAndLow, f_S_branchIf, bnd, bnv, zb_0, zb_1, if_true, if_false]
  · simp (decide := true) only [trb, f_D_isKnown, f_D_isKnown_b36, f_D_isKnown_b37, f_D_isKnown_b96, f_D_isKnown_b114, f_D_isKnown_b132, f_D_trouble_b24, f_D_trouble_b57, f_D_trouble_b83, f_D_trouble_b87, f_D_trouble_b88, f_D_exact, zb_0, zb_1, rd_18, rd_19, rd_20, rd_21, ho, hk, if_true, if_false]
theorem i0_5 (a b : St) (h : Rel a b) (w : Int32) (ho : ush w (26 : Int32) = 0) (hk : w &&& (63 : Int32) = 5) : Per (f_S_perform_b30 w (bg a)) (rd b w) := by
  left
  refine ⟨(10 : Int32), _, _, ⟨sm10, by decide, by decide, by decide, by decide⟩, ?_, ?_, rel_bg a b w h⟩
  · simp (decide := true) only [f_S_perform_b30, f_S_orderOf, ho, f_S_performByK, f_S_performByK_b132, f_S_performByK_b138, f_S_performByK_b150, f_S_performByK_b156, f_S_performByK_b162, f_S_performShift, f_S_performShift_b124, f_S_performOnTwo, f_S_performOnTwo_b183, f_S_performOnTwo_b207, f_S_performMove, f_S_performProduct, f_S_performJumpToS, f_S_performJumpToS_b25, f_S_numberK, hk, vS a b h w, vT a b h w, nD_eq, nA_eq, f_S_give, f_S_giveIfExact, f_S_giveTruth, f_S_giveTruth_b11, f_S_keepHighAndLow, f_S_branchIf, bnd, bnv, zb_0, zb_1, if_true, if_false]
  · simp (decide := true) only [trb, f_D_isKnown, f_D_isKnown_b36, f_D_isKnown_b37, f_D_isKnown_b96, f_D_isKnown_b114, f_D_isKnown_b132, f_D_trouble_b24, f_D_trouble_b57, f_D_trouble_b83, f_D_trouble_b87, f_D_trouble_b88, f_D_exact, zb_0, zb_1, rd_18, rd_19, rd_20, rd_21, ho, hk, if_true, if_false]
theorem i0_10 (a b : St) (h : Rel a b) (w : Int32) (ho : ush w (26 : Int32) = 0) (hk : w &&& (63 : Int32) = 10) : Per (f_S_perform_b30 w (bg a)) (rd b w) := by
  left
  refine ⟨(10 : Int32), _, _, ⟨sm10, by decide, by decide, by decide, by decide⟩, ?_, ?_, rel_bg a b w h⟩
  · simp (decide := true) only [f_S_perform_b30, f_S_orderOf, ho, f_S_performByK, f_S_performByK_b132, f_S_performByK_b138, f_S_performByK_b150, f_S_performByK_b156, f_S_performByK_b162, f_S_performShift, f_S_performShift_b124, f_S_performOnTwo, f_S_performOnTwo_b183, f_S_performOnTwo_b207, f_S_performMove, f_S_performProduct, f_S_performJumpToS, f_S_performJumpToS_b25, f_S_numberK, hk, vS a b h w, vT a b h w, nD_eq, nA_eq, f_S_give, f_S_giveIfExact, f_S_giveTruth, f_S_giveTruth_b11, f_S_keepHighAndLow, f_S_branchIf, bnd, bnv, zb_0, zb_1, if_true, if_false]
  · simp (decide := true) only [trb, f_D_isKnown, f_D_isKnown_b36, f_D_isKnown_b37, f_D_isKnown_b96, f_D_isKnown_b114, f_D_isKnown_b132, f_D_trouble_b24, f_D_trouble_b57, f_D_trouble_b83, f_D_trouble_b87, f_D_trouble_b88, f_D_exact, zb_0, zb_1, rd_18, rd_19, rd_20, rd_21, ho, hk, if_true, if_false]
theorem i0_11 (a b : St) (h : Rel a b) (w : Int32) (ho : ush w (26 : Int32) = 0) (hk : w &&& (63 : Int32) = 11) : Per (f_S_perform_b30 w (bg a)) (rd b w) := by
  left
  refine ⟨(10 : Int32), _, _, ⟨sm10, by decide, by decide, by decide, by decide⟩, ?_, ?_, rel_bg a b w h⟩
  · simp (decide := true) only [f_S_perform_b30, f_S_orderOf, ho, f_S_performByK, f_S_performByK_b132, f_S_performByK_b138, f_S_performByK_b150, f_S_performByK_b156, f_S_performByK_b162, f_S_performShift, f_S_performShift_b124, f_S_performOnTwo, f_S_performOnTwo_b183, f_S_performOnTwo_b207, f_S_performMove, f_S_performProduct, f_S_performJumpToS, f_S_performJumpToS_b25, f_S_numberK, hk, vS a b h w, vT a b h w, nD_eq, nA_eq, f_S_give, f_S_giveIfExact, f_S_giveTruth, f_S_giveTruth_b11, f_S_keepHighAndLow, f_S_branchIf, bnd, bnv, zb_0, zb_1, if_true, if_false]
  · simp (decide := true) only [trb, f_D_isKnown, f_D_isKnown_b36, f_D_isKnown_b37, f_D_isKnown_b96, f_D_isKnown_b114, f_D_isKnown_b132, f_D_trouble_b24, f_D_trouble_b57, f_D_trouble_b83, f_D_trouble_b87, f_D_trouble_b88, f_D_exact, zb_0, zb_1, rd_18, rd_19, rd_20, rd_21, ho, hk, if_true, if_false]
theorem i0_14 (a b : St) (h : Rel a b) (w : Int32) (ho : ush w (26 : Int32) = 0) (hk : w &&& (63 : Int32) = 14) : Per (f_S_perform_b30 w (bg a)) (rd b w) := by
  left
  refine ⟨(10 : Int32), _, _, ⟨sm10, by decide, by decide, by decide, by decide⟩, ?_, ?_, rel_bg a b w h⟩
  · simp (decide := true) only [f_S_perform_b30, f_S_orderOf, ho, f_S_performByK, f_S_performByK_b132, f_S_performByK_b138, f_S_performByK_b150, f_S_performByK_b156, f_S_performByK_b162, f_S_performShift, f_S_performShift_b124, f_S_performOnTwo, f_S_performOnTwo_b183, f_S_performOnTwo_b207, f_S_performMove, f_S_performProduct, f_S_performJumpToS, f_S_performJumpToS_b25, f_S_numberK, hk, vS a b h w, vT a b h w, nD_eq, nA_eq, f_S_give, f_S_giveIfExact, f_S_giveTruth, f_S_giveTruth_b11, f_S_keepHighAndLow, f_S_branchIf, bnd, bnv, zb_0, zb_1, if_true, if_false]
  · simp (decide := true) only [trb, f_D_isKnown, f_D_isKnown_b36, f_D_isKnown_b37, f_D_isKnown_b96, f_D_isKnown_b114, f_D_isKnown_b132, f_D_trouble_b24, f_D_trouble_b57, f_D_trouble_b83, f_D_trouble_b87, f_D_trouble_b88, f_D_exact, zb_0, zb_1, rd_18, rd_19, rd_20, rd_21, ho, hk, if_true, if_false]
theorem i0_15 (a b : St) (h : Rel a b) (w : Int32) (ho : ush w (26 : Int32) = 0) (hk : w &&& (63 : Int32) = 15) : Per (f_S_perform_b30 w (bg a)) (rd b w) := by
  left
  refine ⟨(10 : Int32), _, _, ⟨sm10, by decide, by decide, by decide, by decide⟩, ?_, ?_, rel_bg a b w h⟩
  · simp (decide := true) only [f_S_perform_b30, f_S_orderOf, ho, f_S_performByK, f_S_performByK_b132, f_S_performByK_b138, f_S_performByK_b150, f_S_performByK_b156, f_S_performByK_b162, f_S_performShift, f_S_performShift_b124, f_S_performOnTwo, f_S_performOnTwo_b183, f_S_performOnTwo_b207, f_S_performMove, f_S_performProduct, f_S_performJumpToS, f_S_performJumpToS_b25, f_S_numberK, hk, vS a b h w, vT a b h w, nD_eq, nA_eq, f_S_give, f_S_giveIfExact, f_S_giveTruth, f_S_giveTruth_b11, f_S_keepHighAndLow, f_S_branchIf, bnd, bnv, zb_0, zb_1, if_true, if_false]
  · simp (decide := true) only [trb, f_D_isKnown, f_D_isKnown_b36, f_D_isKnown_b37, f_D_isKnown_b96, f_D_isKnown_b114, f_D_isKnown_b132, f_D_trouble_b24, f_D_trouble_b57, f_D_trouble_b83, f_D_trouble_b87, f_D_trouble_b88, f_D_exact, zb_0, zb_1, rd_18, rd_19, rd_20, rd_21, ho, hk, if_true, if_false]
theorem i0_20 (a b : St) (h : Rel a b) (w : Int32) (ho : ush w (26 : Int32) = 0) (hk : w &&& (63 : Int32) = 20) : Per (f_S_perform_b30 w (bg a)) (rd b w) := by
  left
  refine ⟨(10 : Int32), _, _, ⟨sm10, by decide, by decide, by decide, by decide⟩, ?_, ?_, rel_bg a b w h⟩
  · simp (decide := true) only [f_S_perform_b30, f_S_orderOf, ho, f_S_performByK, f_S_performByK_b132, f_S_performByK_b138, f_S_performByK_b150, f_S_performByK_b156, f_S_performByK_b162, f_S_performShift, f_S_performShift_b124, f_S_performOnTwo, f_S_performOnTwo_b183, f_S_performOnTwo_b207, f_S_performMove, f_S_performProduct, f_S_performJumpToS, f_S_performJumpToS_b25, f_S_numberK, hk, vS a b h w, vT a b h w, nD_eq, nA_eq, f_S_give, f_S_giveIfExact, f_S_giveTruth, f_S_giveTruth_b11, f_S_keepHighAndLow, f_S_branchIf, bnd, bnv, zb_0, zb_1, if_true, if_false]
  · simp (decide := true) only [trb, f_D_isKnown, f_D_isKnown_b36, f_D_isKnown_b37, f_D_isKnown_b96, f_D_isKnown_b114, f_D_isKnown_b132, f_D_trouble_b24, f_D_trouble_b57, f_D_trouble_b83, f_D_trouble_b87, f_D_trouble_b88, f_D_exact, zb_0, zb_1, rd_18, rd_19, rd_20, rd_21, ho, hk, if_true, if_false]
theorem i0_21 (a b : St) (h : Rel a b) (w : Int32) (ho : ush w (26 : Int32) = 0) (hk : w &&& (63 : Int32) = 21) : Per (f_S_perform_b30 w (bg a)) (rd b w) := by
  left
  refine ⟨(10 : Int32), _, _, ⟨sm10, by decide, by decide, by decide, by decide⟩, ?_, ?_, rel_bg a b w h⟩
  · simp (decide := true) only [f_S_perform_b30, f_S_orderOf, ho, f_S_performByK, f_S_performByK_b132, f_S_performByK_b138, f_S_performByK_b150, f_S_performByK_b156, f_S_performByK_b162, f_S_performShift, f_S_performShift_b124, f_S_performOnTwo, f_S_performOnTwo_b183, f_S_performOnTwo_b207, f_S_performMove, f_S_performProduct, f_S_performJumpToS, f_S_performJumpToS_b25, f_S_numberK, hk, vS a b h w, vT a b h w, nD_eq, nA_eq, f_S_give, f_S_giveIfExact, f_S_giveTruth, f_S_giveTruth_b11, f_S_keepHighAndLow, f_S_branchIf, bnd, bnv, zb_0, zb_1, if_true, if_false]
  · simp (decide := true) only [trb, f_D_isKnown, f_D_isKnown_b36, f_D_isKnown_b37, f_D_isKnown_b96, f_D_isKnown_b114, f_D_isKnown_b132, f_D_trouble_b24, f_D_trouble_b57, f_D_trouble_b83, f_D_trouble_b87, f_D_trouble_b88, f_D_exact, zb_0, zb_1, rd_18, rd_19, rd_20, rd_21, ho, hk, if_true, if_false]
theorem i0_22 (a b : St) (h : Rel a b) (w : Int32) (ho : ush w (26 : Int32) = 0) (hk : w &&& (63 : Int32) = 22) : Per (f_S_perform_b30 w (bg a)) (rd b w) := by
  left
  refine ⟨(10 : Int32), _, _, ⟨sm10, by decide, by decide, by decide, by decide⟩, ?_, ?_, rel_bg a b w h⟩
  · simp (decide := true) only [f_S_perform_b30, f_S_orderOf, ho, f_S_performByK, f_S_performByK_b132, f_S_performByK_b138, f_S_performByK_b150, f_S_performByK_b156, f_S_performByK_b162, f_S_performShift, f_S_performShift_b124, f_S_performOnTwo, f_S_performOnTwo_b183, f_S_performOnTwo_b207, f_S_performMove, f_S_performProduct, f_S_performJumpToS, f_S_performJumpToS_b25, f_S_numberK, hk, vS a b h w, vT a b h w, nD_eq, nA_eq, f_S_give, f_S_giveIfExact, f_S_giveTruth, f_S_giveTruth_b11, f_S_keepHighAndLow, f_S_branchIf, bnd, bnv, zb_0, zb_1, if_true, if_false]
  · simp (decide := true) only [trb, f_D_isKnown, f_D_isKnown_b36, f_D_isKnown_b37, f_D_isKnown_b96, f_D_isKnown_b114, f_D_isKnown_b132, f_D_trouble_b24, f_D_trouble_b57, f_D_trouble_b83, f_D_trouble_b87, f_D_trouble_b88, f_D_exact, zb_0, zb_1, rd_18, rd_19, rd_20, rd_21, ho, hk, if_true, if_false]
theorem i0_23 (a b : St) (h : Rel a b) (w : Int32) (ho : ush w (26 : Int32) = 0) (hk : w &&& (63 : Int32) = 23) : Per (f_S_perform_b30 w (bg a)) (rd b w) := by
  left
  refine ⟨(10 : Int32), _, _, ⟨sm10, by decide, by decide, by decide, by decide⟩, ?_, ?_, rel_bg a b w h⟩
  · simp (decide := true) only [f_S_perform_b30, f_S_orderOf, ho, f_S_performByK, f_S_performByK_b132, f_S_performByK_b138, f_S_performByK_b150, f_S_performByK_b156, f_S_performByK_b162, f_S_performShift, f_S_performShift_b124, f_S_performOnTwo, f_S_performOnTwo_b183, f_S_performOnTwo_b207, f_S_performMove, f_S_performProduct, f_S_performJumpToS, f_S_performJumpToS_b25, f_S_numberK, hk, vS a b h w, vT a b h w, nD_eq, nA_eq, f_S_give, f_S_giveIfExact, f_S_giveTruth, f_S_giveTruth_b11, f_S_keepHighAndLow, f_S_branchIf, bnd, bnv, zb_0, zb_1, if_true, if_false]
  · simp (decide := true) only [trb, f_D_isKnown, f_D_isKnown_b36, f_D_isKnown_b37, f_D_isKnown_b96, f_D_isKnown_b114, f_D_isKnown_b132, f_D_trouble_b24, f_D_trouble_b57, f_D_trouble_b83, f_D_trouble_b87, f_D_trouble_b88, f_D_exact, zb_0, zb_1, rd_18, rd_19, rd_20, rd_21, ho, hk, if_true, if_false]
theorem i0_28 (a b : St) (h : Rel a b) (w : Int32) (ho : ush w (26 : Int32) = 0) (hk : w &&& (63 : Int32) = 28) : Per (f_S_perform_b30 w (bg a)) (rd b w) := by
  left
  refine ⟨(10 : Int32), _, _, ⟨sm10, by decide, by decide, by decide, by decide⟩, ?_, ?_, rel_bg a b w h⟩
  · simp (decide := true) only [f_S_perform_b30, f_S_orderOf, ho, f_S_performByK, f_S_performByK_b132, f_S_performByK_b138, f_S_performByK_b150, f_S_performByK_b156, f_S_performByK_b162, f_S_performShift, f_S_performShift_b124, f_S_performOnTwo, f_S_performOnTwo_b183, f_S_performOnTwo_b207, f_S_performMove, f_S_performProduct, f_S_performJumpToS, f_S_performJumpToS_b25, f_S_numberK, hk, vS a b h w, vT a b h w, nD_eq, nA_eq, f_S_give, f_S_giveIfExact, f_S_giveTruth, f_S_giveTruth_b11, f_S_keepHighAndLow, f_S_branchIf, bnd, bnv, zb_0, zb_1, if_true, if_false]
  · simp (decide := true) only [trb, f_D_isKnown, f_D_isKnown_b36, f_D_isKnown_b37, f_D_isKnown_b96, f_D_isKnown_b114, f_D_isKnown_b132, f_D_trouble_b24, f_D_trouble_b57, f_D_trouble_b83, f_D_trouble_b87, f_D_trouble_b88, f_D_exact, zb_0, zb_1, rd_18, rd_19, rd_20, rd_21, ho, hk, if_true, if_false]
theorem i0_29 (a b : St) (h : Rel a b) (w : Int32) (ho : ush w (26 : Int32) = 0) (hk : w &&& (63 : Int32) = 29) : Per (f_S_perform_b30 w (bg a)) (rd b w) := by
  left
  refine ⟨(10 : Int32), _, _, ⟨sm10, by decide, by decide, by decide, by decide⟩, ?_, ?_, rel_bg a b w h⟩
  · simp (decide := true) only [f_S_perform_b30, f_S_orderOf, ho, f_S_performByK, f_S_performByK_b132, f_S_performByK_b138, f_S_performByK_b150, f_S_performByK_b156, f_S_performByK_b162, f_S_performShift, f_S_performShift_b124, f_S_performOnTwo, f_S_performOnTwo_b183, f_S_performOnTwo_b207, f_S_performMove, f_S_performProduct, f_S_performJumpToS, f_S_performJumpToS_b25, f_S_numberK, hk, vS a b h w, vT a b h w, nD_eq, nA_eq, f_S_give, f_S_giveIfExact, f_S_giveTruth, f_S_giveTruth_b11, f_S_keepHighAndLow, f_S_branchIf, bnd, bnv, zb_0, zb_1, if_true, if_false]
  · simp (decide := true) only [trb, f_D_isKnown, f_D_isKnown_b36, f_D_isKnown_b37, f_D_isKnown_b96, f_D_isKnown_b114, f_D_isKnown_b132, f_D_trouble_b24, f_D_trouble_b57, f_D_trouble_b83, f_D_trouble_b87, f_D_trouble_b88, f_D_exact, zb_0, zb_1, rd_18, rd_19, rd_20, rd_21, ho, hk, if_true, if_false]
theorem i0_30 (a b : St) (h : Rel a b) (w : Int32) (ho : ush w (26 : Int32) = 0) (hk : w &&& (63 : Int32) = 30) : Per (f_S_perform_b30 w (bg a)) (rd b w) := by
  left
  refine ⟨(10 : Int32), _, _, ⟨sm10, by decide, by decide, by decide, by decide⟩, ?_, ?_, rel_bg a b w h⟩
  · simp (decide := true) only [f_S_perform_b30, f_S_orderOf, ho, f_S_performByK, f_S_performByK_b132, f_S_performByK_b138, f_S_performByK_b150, f_S_performByK_b156, f_S_performByK_b162, f_S_performShift, f_S_performShift_b124, f_S_performOnTwo, f_S_performOnTwo_b183, f_S_performOnTwo_b207, f_S_performMove, f_S_performProduct, f_S_performJumpToS, f_S_performJumpToS_b25, f_S_numberK, hk, vS a b h w, vT a b h w, nD_eq, nA_eq, f_S_give, f_S_giveIfExact, f_S_giveTruth, f_S_giveTruth_b11, f_S_keepHighAndLow, f_S_branchIf, bnd, bnv, zb_0, zb_1, if_true, if_false]
  · simp (decide := true) only [trb, f_D_isKnown, f_D_isKnown_b36, f_D_isKnown_b37, f_D_isKnown_b96, f_D_isKnown_b114, f_D_isKnown_b132, f_D_trouble_b24, f_D_trouble_b57, f_D_trouble_b83, f_D_trouble_b87, f_D_trouble_b88, f_D_exact, zb_0, zb_1, rd_18, rd_19, rd_20, rd_21, ho, hk, if_true, if_false]
theorem i0_31 (a b : St) (h : Rel a b) (w : Int32) (ho : ush w (26 : Int32) = 0) (hk : w &&& (63 : Int32) = 31) : Per (f_S_perform_b30 w (bg a)) (rd b w) := by
  left
  refine ⟨(10 : Int32), _, _, ⟨sm10, by decide, by decide, by decide, by decide⟩, ?_, ?_, rel_bg a b w h⟩
  · simp (decide := true) only [f_S_perform_b30, f_S_orderOf, ho, f_S_performByK, f_S_performByK_b132, f_S_performByK_b138, f_S_performByK_b150, f_S_performByK_b156, f_S_performByK_b162, f_S_performShift, f_S_performShift_b124, f_S_performOnTwo, f_S_performOnTwo_b183, f_S_performOnTwo_b207, f_S_performMove, f_S_performProduct, f_S_performJumpToS, f_S_performJumpToS_b25, f_S_numberK, hk, vS a b h w, vT a b h w, nD_eq, nA_eq, f_S_give, f_S_giveIfExact, f_S_giveTruth, f_S_giveTruth_b11, f_S_keepHighAndLow, f_S_branchIf, bnd, bnv, zb_0, zb_1, if_true, if_false]
  · simp (decide := true) only [trb, f_D_isKnown, f_D_isKnown_b36, f_D_isKnown_b37, f_D_isKnown_b96, f_D_isKnown_b114, f_D_isKnown_b132, f_D_trouble_b24, f_D_trouble_b57, f_D_trouble_b83, f_D_trouble_b87, f_D_trouble_b88, f_D_exact, zb_0, zb_1, rd_18, rd_19, rd_20, rd_21, ho, hk, if_true, if_false]
theorem i0_40 (a b : St) (h : Rel a b) (w : Int32) (ho : ush w (26 : Int32) = 0) (hk : w &&& (63 : Int32) = 40) : Per (f_S_perform_b30 w (bg a)) (rd b w) := by
  left
  refine ⟨(10 : Int32), _, _, ⟨sm10, by decide, by decide, by decide, by decide⟩, ?_, ?_, rel_bg a b w h⟩
  · simp (decide := true) only [f_S_perform_b30, f_S_orderOf, ho, f_S_performByK, f_S_performByK_b132, f_S_performByK_b138, f_S_performByK_b150, f_S_performByK_b156, f_S_performByK_b162, f_S_performShift, f_S_performShift_b124, f_S_performOnTwo, f_S_performOnTwo_b183, f_S_performOnTwo_b207, f_S_performMove, f_S_performProduct, f_S_performJumpToS, f_S_performJumpToS_b25, f_S_numberK, hk, vS a b h w, vT a b h w, nD_eq, nA_eq, f_S_give, f_S_giveIfExact, f_S_giveTruth, f_S_giveTruth_b11, f_S_keepHighAndLow, f_S_branchIf, bnd, bnv, zb_0, zb_1, if_true, if_false]
  · simp (decide := true) only [trb, f_D_isKnown, f_D_isKnown_b36, f_D_isKnown_b37, f_D_isKnown_b96, f_D_isKnown_b114, f_D_isKnown_b132, f_D_trouble_b24, f_D_trouble_b57, f_D_trouble_b83, f_D_trouble_b87, f_D_trouble_b88, f_D_exact, zb_0, zb_1, rd_18, rd_19, rd_20, rd_21, ho, hk, if_true, if_false]
theorem i0_41 (a b : St) (h : Rel a b) (w : Int32) (ho : ush w (26 : Int32) = 0) (hk : w &&& (63 : Int32) = 41) : Per (f_S_perform_b30 w (bg a)) (rd b w) := by
  left
  refine ⟨(10 : Int32), _, _, ⟨sm10, by decide, by decide, by decide, by decide⟩, ?_, ?_, rel_bg a b w h⟩
  · simp (decide := true) only [f_S_perform_b30, f_S_orderOf, ho, f_S_performByK, f_S_performByK_b132, f_S_performByK_b138, f_S_performByK_b150, f_S_performByK_b156, f_S_performByK_b162, f_S_performShift, f_S_performShift_b124, f_S_performOnTwo, f_S_performOnTwo_b183, f_S_performOnTwo_b207, f_S_performMove, f_S_performProduct, f_S_performJumpToS, f_S_performJumpToS_b25, f_S_numberK, hk, vS a b h w, vT a b h w, nD_eq, nA_eq, f_S_give, f_S_giveIfExact, f_S_giveTruth, f_S_giveTruth_b11, f_S_keepHighAndLow, f_S_branchIf, bnd, bnv, zb_0, zb_1, if_true, if_false]
  · simp (decide := true) only [trb, f_D_isKnown, f_D_isKnown_b36, f_D_isKnown_b37, f_D_isKnown_b96, f_D_isKnown_b114, f_D_isKnown_b132, f_D_trouble_b24, f_D_trouble_b57, f_D_trouble_b83, f_D_trouble_b87, f_D_trouble_b88, f_D_exact, zb_0, zb_1, rd_18, rd_19, rd_20, rd_21, ho, hk, if_true, if_false]
theorem i0_44 (a b : St) (h : Rel a b) (w : Int32) (ho : ush w (26 : Int32) = 0) (hk : w &&& (63 : Int32) = 44) : Per (f_S_perform_b30 w (bg a)) (rd b w) := by
  left
  refine ⟨(10 : Int32), _, _, ⟨sm10, by decide, by decide, by decide, by decide⟩, ?_, ?_, rel_bg a b w h⟩
  · simp (decide := true) only [f_S_perform_b30, f_S_orderOf, ho, f_S_performByK, f_S_performByK_b132, f_S_performByK_b138, f_S_performByK_b150, f_S_performByK_b156, f_S_performByK_b162, f_S_performShift, f_S_performShift_b124, f_S_performOnTwo, f_S_performOnTwo_b183, f_S_performOnTwo_b207, f_S_performMove, f_S_performProduct, f_S_performJumpToS, f_S_performJumpToS_b25, f_S_numberK, hk, vS a b h w, vT a b h w, nD_eq, nA_eq, f_S_give, f_S_giveIfExact, f_S_giveTruth, f_S_giveTruth_b11, f_S_keepHighAndLow, f_S_branchIf, bnd, bnv, zb_0, zb_1, if_true, if_false]
  · simp (decide := true) only [trb, f_D_isKnown, f_D_isKnown_b36, f_D_isKnown_b37, f_D_isKnown_b96, f_D_isKnown_b114, f_D_isKnown_b132, f_D_trouble_b24, f_D_trouble_b57, f_D_trouble_b83, f_D_trouble_b87, f_D_trouble_b88, f_D_exact, zb_0, zb_1, rd_18, rd_19, rd_20, rd_21, ho, hk, if_true, if_false]
theorem i0_45 (a b : St) (h : Rel a b) (w : Int32) (ho : ush w (26 : Int32) = 0) (hk : w &&& (63 : Int32) = 45) : Per (f_S_perform_b30 w (bg a)) (rd b w) := by
  left
  refine ⟨(10 : Int32), _, _, ⟨sm10, by decide, by decide, by decide, by decide⟩, ?_, ?_, rel_bg a b w h⟩
  · simp (decide := true) only [f_S_perform_b30, f_S_orderOf, ho, f_S_performByK, f_S_performByK_b132, f_S_performByK_b138, f_S_performByK_b150, f_S_performByK_b156, f_S_performByK_b162, f_S_performShift, f_S_performShift_b124, f_S_performOnTwo, f_S_performOnTwo_b183, f_S_performOnTwo_b207, f_S_performMove, f_S_performProduct, f_S_performJumpToS, f_S_performJumpToS_b25, f_S_numberK, hk, vS a b h w, vT a b h w, nD_eq, nA_eq, f_S_give, f_S_giveIfExact, f_S_giveTruth, f_S_giveTruth_b11, f_S_keepHighAndLow, f_S_branchIf, bnd, bnv, zb_0, zb_1, if_true, if_false]
  · simp (decide := true) only [trb, f_D_isKnown, f_D_isKnown_b36, f_D_isKnown_b37, f_D_isKnown_b96, f_D_isKnown_b114, f_D_isKnown_b132, f_D_trouble_b24, f_D_trouble_b57, f_D_trouble_b83, f_D_trouble_b87, f_D_trouble_b88, f_D_exact, zb_0, zb_1, rd_18, rd_19, rd_20, rd_21, ho, hk, if_true, if_false]
theorem i0_46 (a b : St) (h : Rel a b) (w : Int32) (ho : ush w (26 : Int32) = 0) (hk : w &&& (63 : Int32) = 46) : Per (f_S_perform_b30 w (bg a)) (rd b w) := by
  left
  refine ⟨(10 : Int32), _, _, ⟨sm10, by decide, by decide, by decide, by decide⟩, ?_, ?_, rel_bg a b w h⟩
  · simp (decide := true) only [f_S_perform_b30, f_S_orderOf, ho, f_S_performByK, f_S_performByK_b132, f_S_performByK_b138, f_S_performByK_b150, f_S_performByK_b156, f_S_performByK_b162, f_S_performShift, f_S_performShift_b124, f_S_performOnTwo, f_S_performOnTwo_b183, f_S_performOnTwo_b207, f_S_performMove, f_S_performProduct, f_S_performJumpToS, f_S_performJumpToS_b25, f_S_numberK, hk, vS a b h w, vT a b h w, nD_eq, nA_eq, f_S_give, f_S_giveIfExact, f_S_giveTruth, f_S_giveTruth_b11, f_S_keepHighAndLow, f_S_branchIf, bnd, bnv, zb_0, zb_1, if_true, if_false]
  · simp (decide := true) only [trb, f_D_isKnown, f_D_isKnown_b36, f_D_isKnown_b37, f_D_isKnown_b96, f_D_isKnown_b114, f_D_isKnown_b132, f_D_trouble_b24, f_D_trouble_b57, f_D_trouble_b83, f_D_trouble_b87, f_D_trouble_b88, f_D_exact, zb_0, zb_1, rd_18, rd_19, rd_20, rd_21, ho, hk, if_true, if_false]
theorem i0_47 (a b : St) (h : Rel a b) (w : Int32) (ho : ush w (26 : Int32) = 0) (hk : w &&& (63 : Int32) = 47) : Per (f_S_perform_b30 w (bg a)) (rd b w) := by
  left
  refine ⟨(10 : Int32), _, _, ⟨sm10, by decide, by decide, by decide, by decide⟩, ?_, ?_, rel_bg a b w h⟩
  · simp (decide := true) only [f_S_perform_b30, f_S_orderOf, ho, f_S_performByK, f_S_performByK_b132, f_S_performByK_b138, f_S_performByK_b150, f_S_performByK_b156, f_S_performByK_b162, f_S_performShift, f_S_performShift_b124, f_S_performOnTwo, f_S_performOnTwo_b183, f_S_performOnTwo_b207, f_S_performMove, f_S_performProduct, f_S_performJumpToS, f_S_performJumpToS_b25, f_S_numberK, hk, vS a b h w, vT a b h w, nD_eq, nA_eq, f_S_give, f_S_giveIfExact, f_S_giveTruth, f_S_giveTruth_b11, f_S_keepHighAndLow, f_S_branchIf, bnd, bnv, zb_0, zb_1, if_true, if_false]
  · simp (decide := true) only [trb, f_D_isKnown, f_D_isKnown_b36, f_D_isKnown_b37, f_D_isKnown_b96, f_D_isKnown_b114, f_D_isKnown_b132, f_D_trouble_b24, f_D_trouble_b57, f_D_trouble_b83, f_D_trouble_b87, f_D_trouble_b88, f_D_exact, zb_0, zb_1, rd_18, rd_19, rd_20, rd_21, ho, hk, if_true, if_false]
theorem i0_48 (a b : St) (h : Rel a b) (w : Int32) (ho : ush w (26 : Int32) = 0) (hk : w &&& (63 : Int32) = 48) : Per (f_S_perform_b30 w (bg a)) (rd b w) := by
  left
  refine ⟨(10 : Int32), _, _, ⟨sm10, by decide, by decide, by decide, by decide⟩, ?_, ?_, rel_bg a b w h⟩
  · simp (decide := true) only [f_S_perform_b30, f_S_orderOf, ho, f_S_performByK, f_S_performByK_b132, f_S_performByK_b138, f_S_performByK_b150, f_S_performByK_b156, f_S_performByK_b162, f_S_performShift, f_S_performShift_b124, f_S_performOnTwo, f_S_performOnTwo_b183, f_S_performOnTwo_b207, f_S_performMove, f_S_performProduct, f_S_performJumpToS, f_S_performJumpToS_b25, f_S_numberK, hk, vS a b h w, vT a b h w, nD_eq, nA_eq, f_S_give, f_S_giveIfExact, f_S_giveTruth, f_S_giveTruth_b11, f_S_keepHighAndLow, f_S_branchIf, bnd, bnv, zb_0, zb_1, if_true, if_false]
  · simp (decide := true) only [trb, f_D_isKnown, f_D_isKnown_b36, f_D_isKnown_b37, f_D_isKnown_b96, f_D_isKnown_b114, f_D_isKnown_b132, f_D_trouble_b24, f_D_trouble_b57, f_D_trouble_b83, f_D_trouble_b87, f_D_trouble_b88, f_D_exact, zb_0, zb_1, rd_18, rd_19, rd_20, rd_21, ho, hk, if_true, if_false]
theorem i0_49 (a b : St) (h : Rel a b) (w : Int32) (ho : ush w (26 : Int32) = 0) (hk : w &&& (63 : Int32) = 49) : Per (f_S_perform_b30 w (bg a)) (rd b w) := by
  left
  refine ⟨(10 : Int32), _, _, ⟨sm10, by decide, by decide, by decide, by decide⟩, ?_, ?_, rel_bg a b w h⟩
  · simp (decide := true) only [f_S_perform_b30, f_S_orderOf, ho, f_S_performByK, f_S_performByK_b132, f_S_performByK_b138, f_S_performByK_b150, f_S_performByK_b156, f_S_performByK_b162, f_S_performShift, f_S_performShift_b124, f_S_performOnTwo, f_S_performOnTwo_b183, f_S_performOnTwo_b207, f_S_performMove, f_S_performProduct, f_S_performJumpToS, f_S_performJumpToS_b25, f_S_numberK, hk, vS a b h w, vT a b h w, nD_eq, nA_eq, f_S_give, f_S_giveIfExact, f_S_giveTruth, f_S_giveTruth_b11, f_S_keepHighAndLow, f_S_branchIf, bnd, bnv, zb_0, zb_1, if_true, if_false]
  · simp (decide := true) only [trb, f_D_isKnown, f_D_isKnown_b36, f_D_isKnown_b37, f_D_isKnown_b96, f_D_isKnown_b114, f_D_isKnown_b132, f_D_trouble_b24, f_D_trouble_b57, f_D_trouble_b83, f_D_trouble_b87, f_D_trouble_b88, f_D_exact, zb_0, zb_1, rd_18, rd_19, rd_20, rd_21, ho, hk, if_true, if_false]
theorem i0_50 (a b : St) (h : Rel a b) (w : Int32) (ho : ush w (26 : Int32) = 0) (hk : w &&& (63 : Int32) = 50) : Per (f_S_perform_b30 w (bg a)) (rd b w) := by
  left
  refine ⟨(10 : Int32), _, _, ⟨sm10, by decide, by decide, by decide, by decide⟩, ?_, ?_, rel_bg a b w h⟩
  · simp (decide := true) only [f_S_perform_b30, f_S_orderOf, ho, f_S_performByK, f_S_performByK_b132, f_S_performByK_b138, f_S_performByK_b150, f_S_performByK_b156, f_S_performByK_b162, f_S_performShift, f_S_performShift_b124, f_S_performOnTwo, f_S_performOnTwo_b183, f_S_performOnTwo_b207, f_S_performMove, f_S_performProduct, f_S_performJumpToS, f_S_performJumpToS_b25, f_S_numberK, hk, vS a b h w, vT a b h w, nD_eq, nA_eq, f_S_give, f_S_giveIfExact, f_S_giveTruth, f_S_giveTruth_b11, f_S_keepHighAndLow, f_S_branchIf, bnd, bnv, zb_0, zb_1, if_true, if_false]
  · simp (decide := true) only [trb, f_D_isKnown, f_D_isKnown_b36, f_D_isKnown_b37, f_D_isKnown_b96, f_D_isKnown_b114, f_D_isKnown_b132, f_D_trouble_b24, f_D_trouble_b57, f_D_trouble_b83, f_D_trouble_b87, f_D_trouble_b88, f_D_exact, zb_0, zb_1, rd_18, rd_19, rd_20, rd_21, ho, hk, if_true, if_false]
theorem i0_51 (a b : St) (h : Rel a b) (w : Int32) (ho : ush w (26 : Int32) = 0) (hk : w &&& (63 : Int32) = 51) : Per (f_S_perform_b30 w (bg a)) (rd b w) := by
  left
  refine ⟨(10 : Int32), _, _, ⟨sm10, by decide, by decide, by decide, by decide⟩, ?_, ?_, rel_bg a b w h⟩
  · simp (decide := true) only [f_S_perform_b30, f_S_orderOf, ho, f_S_performByK, f_S_performByK_b132, f_S_performByK_b138, f_S_performByK_b150, f_S_performByK_b156, f_S_performByK_b162, f_S_performShift, f_S_performShift_b124, f_S_performOnTwo, f_S_performOnTwo_b183, f_S_performOnTwo_b207, f_S_performMove, f_S_performProduct, f_S_performJumpToS, f_S_performJumpToS_b25, f_S_numberK, hk, vS a b h w, vT a b h w, nD_eq, nA_eq, f_S_give, f_S_giveIfExact, f_S_giveTruth, f_S_giveTruth_b11, f_S_keepHighAndLow, f_S_branchIf, bnd, bnv, zb_0, zb_1, if_true, if_false]
  · simp (decide := true) only [trb, f_D_isKnown, f_D_isKnown_b36, f_D_isKnown_b37, f_D_isKnown_b96, f_D_isKnown_b114, f_D_isKnown_b132, f_D_trouble_b24, f_D_trouble_b57, f_D_trouble_b83, f_D_trouble_b87, f_D_trouble_b88, f_D_exact, zb_0, zb_1, rd_18, rd_19, rd_20, rd_21, ho, hk, if_true, if_false]
theorem i0_52 (a b : St) (h : Rel a b) (w : Int32) (ho : ush w (26 : Int32) = 0) (hk : w &&& (63 : Int32) = 52) : Per (f_S_perform_b30 w (bg a)) (rd b w) := by
  left
  refine ⟨(10 : Int32), _, _, ⟨sm10, by decide, by decide, by decide, by decide⟩, ?_, ?_, rel_bg a b w h⟩
  · simp (decide := true) only [f_S_perform_b30, f_S_orderOf, ho, f_S_performByK, f_S_performByK_b132, f_S_performByK_b138, f_S_performByK_b150, f_S_performByK_b156, f_S_performByK_b162, f_S_performShift, f_S_performShift_b124, f_S_performOnTwo, f_S_performOnTwo_b183, f_S_performOnTwo_b207, f_S_performMove, f_S_performProduct, f_S_performJumpToS, f_S_performJumpToS_b25, f_S_numberK, hk, vS a b h w, vT a b h w, nD_eq, nA_eq, f_S_give, f_S_giveIfExact, f_S_giveTruth, f_S_giveTruth_b11, f_S_keepHighAndLow, f_S_branchIf, bnd, bnv, zb_0, zb_1, if_true, if_false]
  · simp (decide := true) only [trb, f_D_isKnown, f_D_isKnown_b36, f_D_isKnown_b37, f_D_isKnown_b96, f_D_isKnown_b114, f_D_isKnown_b132, f_D_trouble_b24, f_D_trouble_b57, f_D_trouble_b83, f_D_trouble_b87, f_D_trouble_b88, f_D_exact, zb_0, zb_1, rd_18, rd_19, rd_20, rd_21, ho, hk, if_true, if_false]
theorem i0_53 (a b : St) (h : Rel a b) (w : Int32) (ho : ush w (26 : Int32) = 0) (hk : w &&& (63 : Int32) = 53) : Per (f_S_perform_b30 w (bg a)) (rd b w) := by
  left
  refine ⟨(10 : Int32), _, _, ⟨sm10, by decide, by decide, by decide, by decide⟩, ?_, ?_, rel_bg a b w h⟩
  · simp (decide := true) only [f_S_perform_b30, f_S_orderOf, ho, f_S_performByK, f_S_performByK_b132, f_S_performByK_b138, f_S_performByK_b150, f_S_performByK_b156, f_S_performByK_b162, f_S_performShift, f_S_performShift_b124, f_S_performOnTwo, f_S_performOnTwo_b183, f_S_performOnTwo_b207, f_S_performMove, f_S_performProduct, f_S_performJumpToS, f_S_performJumpToS_b25, f_S_numberK, hk, vS a b h w, vT a b h w, nD_eq, nA_eq, f_S_give, f_S_giveIfExact, f_S_giveTruth, f_S_giveTruth_b11, f_S_keepHighAndLow, f_S_branchIf, bnd, bnv, zb_0, zb_1, if_true, if_false]
  · simp (decide := true) only [trb, f_D_isKnown, f_D_isKnown_b36, f_D_isKnown_b37, f_D_isKnown_b96, f_D_isKnown_b114, f_D_isKnown_b132, f_D_trouble_b24, f_D_trouble_b57, f_D_trouble_b83, f_D_trouble_b87, f_D_trouble_b88, f_D_exact, zb_0, zb_1, rd_18, rd_19, rd_20, rd_21, ho, hk, if_true, if_false]
theorem i0_54 (a b : St) (h : Rel a b) (w : Int32) (ho : ush w (26 : Int32) = 0) (hk : w &&& (63 : Int32) = 54) : Per (f_S_perform_b30 w (bg a)) (rd b w) := by
  left
  refine ⟨(10 : Int32), _, _, ⟨sm10, by decide, by decide, by decide, by decide⟩, ?_, ?_, rel_bg a b w h⟩
  · simp (decide := true) only [f_S_perform_b30, f_S_orderOf, ho, f_S_performByK, f_S_performByK_b132, f_S_performByK_b138, f_S_performByK_b150, f_S_performByK_b156, f_S_performByK_b162, f_S_performShift, f_S_performShift_b124, f_S_performOnTwo, f_S_performOnTwo_b183, f_S_performOnTwo_b207, f_S_performMove, f_S_performProduct, f_S_performJumpToS, f_S_performJumpToS_b25, f_S_numberK, hk, vS a b h w, vT a b h w, nD_eq, nA_eq, f_S_give, f_S_giveIfExact, f_S_giveTruth, f_S_giveTruth_b11, f_S_keepHighAndLow, f_S_branchIf, bnd, bnv, zb_0, zb_1, if_true, if_false]
  · simp (decide := true) only [trb, f_D_isKnown, f_D_isKnown_b36, f_D_isKnown_b37, f_D_isKnown_b96, f_D_isKnown_b114, f_D_isKnown_b132, f_D_trouble_b24, f_D_trouble_b57, f_D_trouble_b83, f_D_trouble_b87, f_D_trouble_b88, f_D_exact, zb_0, zb_1, rd_18, rd_19, rd_20, rd_21, ho, hk, if_true, if_false]
theorem i0_55 (a b : St) (h : Rel a b) (w : Int32) (ho : ush w (26 : Int32) = 0) (hk : w &&& (63 : Int32) = 55) : Per (f_S_perform_b30 w (bg a)) (rd b w) := by
  left
  refine ⟨(10 : Int32), _, _, ⟨sm10, by decide, by decide, by decide, by decide⟩, ?_, ?_, rel_bg a b w h⟩
  · simp (decide := true) only [f_S_perform_b30, f_S_orderOf, ho, f_S_performByK, f_S_performByK_b132, f_S_performByK_b138, f_S_performByK_b150, f_S_performByK_b156, f_S_performByK_b162, f_S_performShift, f_S_performShift_b124, f_S_performOnTwo, f_S_performOnTwo_b183, f_S_performOnTwo_b207, f_S_performMove, f_S_performProduct, f_S_performJumpToS, f_S_performJumpToS_b25, f_S_numberK, hk, vS a b h w, vT a b h w, nD_eq, nA_eq, f_S_give, f_S_giveIfExact, f_S_giveTruth, f_S_giveTruth_b11, f_S_keepHighAndLow, f_S_branchIf, bnd, bnv, zb_0, zb_1, if_true, if_false]
  · simp (decide := true) only [trb, f_D_isKnown, f_D_isKnown_b36, f_D_isKnown_b37, f_D_isKnown_b96, f_D_isKnown_b114, f_D_isKnown_b132, f_D_trouble_b24, f_D_trouble_b57, f_D_trouble_b83, f_D_trouble_b87, f_D_trouble_b88, f_D_exact, zb_0, zb_1, rd_18, rd_19, rd_20, rd_21, ho, hk, if_true, if_false]
theorem i0_56 (a b : St) (h : Rel a b) (w : Int32) (ho : ush w (26 : Int32) = 0) (hk : w &&& (63 : Int32) = 56) : Per (f_S_perform_b30 w (bg a)) (rd b w) := by
  left
  refine ⟨(10 : Int32), _, _, ⟨sm10, by decide, by decide, by decide, by decide⟩, ?_, ?_, rel_bg a b w h⟩
  · simp (decide := true) only [f_S_perform_b30, f_S_orderOf, ho, f_S_performByK, f_S_performByK_b132, f_S_performByK_b138, f_S_performByK_b150, f_S_performByK_b156, f_S_performByK_b162, f_S_performShift, f_S_performShift_b124, f_S_performOnTwo, f_S_performOnTwo_b183, f_S_performOnTwo_b207, f_S_performMove, f_S_performProduct, f_S_performJumpToS, f_S_performJumpToS_b25, f_S_numberK, hk, vS a b h w, vT a b h w, nD_eq, nA_eq, f_S_give, f_S_giveIfExact, f_S_giveTruth, f_S_giveTruth_b11, f_S_keepHighAndLow, f_S_branchIf, bnd, bnv, zb_0, zb_1, if_true, if_false]
  · simp (decide := true) only [trb, f_D_isKnown, f_D_isKnown_b36, f_D_isKnown_b37, f_D_isKnown_b96, f_D_isKnown_b114, f_D_isKnown_b132, f_D_trouble_b24, f_D_trouble_b57, f_D_trouble_b83, f_D_trouble_b87, f_D_trouble_b88, f_D_exact, zb_0, zb_1, rd_18, rd_19, rd_20, rd_21, ho, hk, if_true, if_false]
theorem i0_57 (a b : St) (h : Rel a b) (w : Int32) (ho : ush w (26 : Int32) = 0) (hk : w &&& (63 : Int32) = 57) : Per (f_S_perform_b30 w (bg a)) (rd b w) := by
  left
  refine ⟨(10 : Int32), _, _, ⟨sm10, by decide, by decide, by decide, by decide⟩, ?_, ?_, rel_bg a b w h⟩
  · simp (decide := true) only [f_S_perform_b30, f_S_orderOf, ho, f_S_performByK, f_S_performByK_b132, f_S_performByK_b138, f_S_performByK_b150, f_S_performByK_b156, f_S_performByK_b162, f_S_performShift, f_S_performShift_b124, f_S_performOnTwo, f_S_performOnTwo_b183, f_S_performOnTwo_b207, f_S_performMove, f_S_performProduct, f_S_performJumpToS, f_S_performJumpToS_b25, f_S_numberK, hk, vS a b h w, vT a b h w, nD_eq, nA_eq, f_S_give, f_S_giveIfExact, f_S_giveTruth, f_S_giveTruth_b11, f_S_keepHighAndLow, f_S_branchIf, bnd, bnv, zb_0, zb_1, if_true, if_false]
  · simp (decide := true) only [trb, f_D_isKnown, f_D_isKnown_b36, f_D_isKnown_b37, f_D_isKnown_b96, f_D_isKnown_b114, f_D_isKnown_b132, f_D_trouble_b24, f_D_trouble_b57, f_D_trouble_b83, f_D_trouble_b87, f_D_trouble_b88, f_D_exact, zb_0, zb_1, rd_18, rd_19, rd_20, rd_21, ho, hk, if_true, if_false]
theorem i0_58 (a b : St) (h : Rel a b) (w : Int32) (ho : ush w (26 : Int32) = 0) (hk : w &&& (63 : Int32) = 58) : Per (f_S_perform_b30 w (bg a)) (rd b w) := by
  left
  refine ⟨(10 : Int32), _, _, ⟨sm10, by decide, by decide, by decide, by decide⟩, ?_, ?_, rel_bg a b w h⟩
  · simp (decide := true) only [f_S_perform_b30, f_S_orderOf, ho, f_S_performByK, f_S_performByK_b132, f_S_performByK_b138, f_S_performByK_b150, f_S_performByK_b156, f_S_performByK_b162, f_S_performShift, f_S_performShift_b124, f_S_performOnTwo, f_S_performOnTwo_b183, f_S_performOnTwo_b207, f_S_performMove, f_S_performProduct, f_S_performJumpToS, f_S_performJumpToS_b25, f_S_numberK, hk, vS a b h w, vT a b h w, nD_eq, nA_eq, f_S_give, f_S_giveIfExact, f_S_giveTruth, f_S_giveTruth_b11, f_S_keepHighAndLow, f_S_branchIf, bnd, bnv, zb_0, zb_1, if_true, if_false]
  · simp (decide := true) only [trb, f_D_isKnown, f_D_isKnown_b36, f_D_isKnown_b37, f_D_isKnown_b96, f_D_isKnown_b114, f_D_isKnown_b132, f_D_trouble_b24, f_D_trouble_b57, f_D_trouble_b83, f_D_trouble_b87, f_D_trouble_b88, f_D_exact, zb_0, zb_1, rd_18, rd_19, rd_20, rd_21, ho, hk, if_true, if_false]
theorem i0_59 (a b : St) (h : Rel a b) (w : Int32) (ho : ush w (26 : Int32) = 0) (hk : w &&& (63 : Int32) = 59) : Per (f_S_perform_b30 w (bg a)) (rd b w) := by
  left
  refine ⟨(10 : Int32), _, _, ⟨sm10, by decide, by decide, by decide, by decide⟩, ?_, ?_, rel_bg a b w h⟩
  · simp (decide := true) only [f_S_perform_b30, f_S_orderOf, ho, f_S_performByK, f_S_performByK_b132, f_S_performByK_b138, f_S_performByK_b150, f_S_performByK_b156, f_S_performByK_b162, f_S_performShift, f_S_performShift_b124, f_S_performOnTwo, f_S_performOnTwo_b183, f_S_performOnTwo_b207, f_S_performMove, f_S_performProduct, f_S_performJumpToS, f_S_performJumpToS_b25, f_S_numberK, hk, vS a b h w, vT a b h w, nD_eq, nA_eq, f_S_give, f_S_giveIfExact, f_S_giveTruth, f_S_giveTruth_b11, f_S_keepHighAndLow, f_S_branchIf, bnd, bnv, zb_0, zb_1, if_true, if_false]
  · simp (decide := true) only [trb, f_D_isKnown, f_D_isKnown_b36, f_D_isKnown_b37, f_D_isKnown_b96, f_D_isKnown_b114, f_D_isKnown_b132, f_D_trouble_b24, f_D_trouble_b57, f_D_trouble_b83, f_D_trouble_b87, f_D_trouble_b88, f_D_exact, zb_0, zb_1, rd_18, rd_19, rd_20, rd_21, ho, hk, if_true, if_false]
theorem i0_60 (a b : St) (h : Rel a b) (w : Int32) (ho : ush w (26 : Int32) = 0) (hk : w &&& (63 : Int32) = 60) : Per (f_S_perform_b30 w (bg a)) (rd b w) := by
  left
  refine ⟨(10 : Int32), _, _, ⟨sm10, by decide, by decide, by decide, by decide⟩, ?_, ?_, rel_bg a b w h⟩
  · simp (decide := true) only [f_S_perform_b30, f_S_orderOf, ho, f_S_performByK, f_S_performByK_b132, f_S_performByK_b138, f_S_performByK_b150, f_S_performByK_b156, f_S_performByK_b162, f_S_performShift, f_S_performShift_b124, f_S_performOnTwo, f_S_performOnTwo_b183, f_S_performOnTwo_b207, f_S_performMove, f_S_performProduct, f_S_performJumpToS, f_S_performJumpToS_b25, f_S_numberK, hk, vS a b h w, vT a b h w, nD_eq, nA_eq, f_S_give, f_S_giveIfExact, f_S_giveTruth, f_S_giveTruth_b11, f_S_keepHighAndLow, f_S_branchIf, bnd, bnv, zb_0, zb_1, if_true, if_false]
  · simp (decide := true) only [trb, f_D_isKnown, f_D_isKnown_b36, f_D_isKnown_b37, f_D_isKnown_b96, f_D_isKnown_b114, f_D_isKnown_b132, f_D_trouble_b24, f_D_trouble_b57, f_D_trouble_b83, f_D_trouble_b87, f_D_trouble_b88, f_D_exact, zb_0, zb_1, rd_18, rd_19, rd_20, rd_21, ho, hk, if_true, if_false]
theorem i0_61 (a b : St) (h : Rel a b) (w : Int32) (ho : ush w (26 : Int32) = 0) (hk : w &&& (63 : Int32) = 61) : Per (f_S_perform_b30 w (bg a)) (rd b w) := by
  left
  refine ⟨(10 : Int32), _, _, ⟨sm10, by decide, by decide, by decide, by decide⟩, ?_, ?_, rel_bg a b w h⟩
  · simp (decide := true) only [f_S_perform_b30, f_S_orderOf, ho, f_S_performByK, f_S_performByK_b132, f_S_performByK_b138, f_S_performByK_b150, f_S_performByK_b156, f_S_performByK_b162, f_S_performShift, f_S_performShift_b124, f_S_performOnTwo, f_S_performOnTwo_b183, f_S_performOnTwo_b207, f_S_performMove, f_S_performProduct, f_S_performJumpToS, f_S_performJumpToS_b25, f_S_numberK, hk, vS a b h w, vT a b h w, nD_eq, nA_eq, f_S_give, f_S_giveIfExact, f_S_giveTruth, f_S_giveTruth_b11, f_S_keepHighAndLow, f_S_branchIf, bnd, bnv, zb_0, zb_1, if_true, if_false]
  · simp (decide := true) only [trb, f_D_isKnown, f_D_isKnown_b36, f_D_isKnown_b37, f_D_isKnown_b96, f_D_isKnown_b114, f_D_isKnown_b132, f_D_trouble_b24, f_D_trouble_b57, f_D_trouble_b83, f_D_trouble_b87, f_D_trouble_b88, f_D_exact, zb_0, zb_1, rd_18, rd_19, rd_20, rd_21, ho, hk, if_true, if_false]
theorem i0_62 (a b : St) (h : Rel a b) (w : Int32) (ho : ush w (26 : Int32) = 0) (hk : w &&& (63 : Int32) = 62) : Per (f_S_perform_b30 w (bg a)) (rd b w) := by
  left
  refine ⟨(10 : Int32), _, _, ⟨sm10, by decide, by decide, by decide, by decide⟩, ?_, ?_, rel_bg a b w h⟩
  · simp (decide := true) only [f_S_perform_b30, f_S_orderOf, ho, f_S_performByK, f_S_performByK_b132, f_S_performByK_b138, f_S_performByK_b150, f_S_performByK_b156, f_S_performByK_b162, f_S_performShift, f_S_performShift_b124, f_S_performOnTwo, f_S_performOnTwo_b183, f_S_performOnTwo_b207, f_S_performMove, f_S_performProduct, f_S_performJumpToS, f_S_performJumpToS_b25, f_S_numberK, hk, vS a b h w, vT a b h w, nD_eq, nA_eq, f_S_give, f_S_giveIfExact, f_S_giveTruth, f_S_giveTruth_b11, f_S_keepHighAndLow, f_S_branchIf, bnd, bnv, zb_0, zb_1, if_true, if_false]
  · simp (decide := true) only [trb, f_D_isKnown, f_D_isKnown_b36, f_D_isKnown_b37, f_D_isKnown_b96, f_D_isKnown_b114, f_D_isKnown_b132, f_D_trouble_b24, f_D_trouble_b57, f_D_trouble_b83, f_D_trouble_b87, f_D_trouble_b88, f_D_exact, zb_0, zb_1, rd_18, rd_19, rd_20, rd_21, ho, hk, if_true, if_false]
theorem i0_63 (a b : St) (h : Rel a b) (w : Int32) (ho : ush w (26 : Int32) = 0) (hk : w &&& (63 : Int32) = 63) : Per (f_S_perform_b30 w (bg a)) (rd b w) := by
  left
  refine ⟨(10 : Int32), _, _, ⟨sm10, by decide, by decide, by decide, by decide⟩, ?_, ?_, rel_bg a b w h⟩
  · simp (decide := true) only [f_S_perform_b30, f_S_orderOf, ho, f_S_performByK, f_S_performByK_b132, f_S_performByK_b138, f_S_performByK_b150, f_S_performByK_b156, f_S_performByK_b162, f_S_performShift, f_S_performShift_b124, f_S_performOnTwo, f_S_performOnTwo_b183, f_S_performOnTwo_b207, f_S_performMove, f_S_performProduct, f_S_performJumpToS, f_S_performJumpToS_b25, f_S_numberK, hk, vS a b h w, vT a b h w, nD_eq, nA_eq, f_S_give, f_S_giveIfExact, f_S_giveTruth, f_S_giveTruth_b11, f_S_keepHighAndLow, f_S_branchIf, bnd, bnv, zb_0, zb_1, if_true, if_false]
  · simp (decide := true) only [trb, f_D_isKnown, f_D_isKnown_b36, f_D_isKnown_b37, f_D_isKnown_b96, f_D_isKnown_b114, f_D_isKnown_b132, f_D_trouble_b24, f_D_trouble_b57, f_D_trouble_b83, f_D_trouble_b87, f_D_trouble_b88, f_D_exact, zb_0, zb_1, rd_18, rd_19, rd_20, rd_21, ho, hk, if_true, if_false]
theorem ins_0 (a b : St) (h : Rel a b) (w : Int32) (ho : ush w (26 : Int32) = 0) : Per (f_S_perform_b30 w (bg a)) (rd b w) := by
  obtain ⟨n, hn, hk⟩ := k_nI w
  have hd : n = 0 ∨ n = 1 ∨ n = 2 ∨ n = 3 ∨ n = 4 ∨ n = 5 ∨ n = 6 ∨ n = 7 ∨ n = 8 ∨ n = 9 ∨ n = 10 ∨ n = 11 ∨ n = 12 ∨ n = 13 ∨ n = 14 ∨ n = 15 ∨ n = 16 ∨ n = 17 ∨ n = 18 ∨ n = 19 ∨ n = 20 ∨ n = 21 ∨ n = 22 ∨ n = 23 ∨ n = 24 ∨ n = 25 ∨ n = 26 ∨ n = 27 ∨ n = 28 ∨ n = 29 ∨ n = 30 ∨ n = 31 ∨ n = 32 ∨ n = 33 ∨ n = 34 ∨ n = 35 ∨ n = 36 ∨ n = 37 ∨ n = 38 ∨ n = 39 ∨ n = 40 ∨ n = 41 ∨ n = 42 ∨ n = 43 ∨ n = 44 ∨ n = 45 ∨ n = 46 ∨ n = 47 ∨ n = 48 ∨ n = 49 ∨ n = 50 ∨ n = 51 ∨ n = 52 ∨ n = 53 ∨ n = 54 ∨ n = 55 ∨ n = 56 ∨ n = 57 ∨ n = 58 ∨ n = 59 ∨ n = 60 ∨ n = 61 ∨ n = 62 ∨ n = 63 := by omega
  rcases hd with rfl | rfl | rfl | rfl | rfl | rfl | rfl | rfl | rfl | rfl | rfl | rfl | rfl | rfl | rfl | rfl | rfl | rfl | rfl | rfl | rfl | rfl | rfl | rfl | rfl | rfl | rfl | rfl | rfl | rfl | rfl | rfl | rfl | rfl | rfl | rfl | rfl | rfl | rfl | rfl | rfl | rfl | rfl | rfl | rfl | rfl | rfl | rfl | rfl | rfl | rfl | rfl | rfl | rfl | rfl | rfl | rfl | rfl | rfl | rfl | rfl | rfl | rfl | rfl
  · exact i0_0 a b h w ho hk
  · exact i0_1 a b h w ho hk
  · exact i0_2 a b h w ho hk
  · exact i0_3 a b h w ho hk
  · exact i0_4 a b h w ho hk
  · exact i0_5 a b h w ho hk
  · exact i0_6 a b h w ho hk
  · exact i0_7 a b h w ho hk
  · exact i0_8 a b h w ho hk
  · exact i0_9 a b h w ho hk
  · exact i0_10 a b h w ho hk
  · exact i0_11 a b h w ho hk
  · exact i0_12 a b h w ho hk
  · exact i0_13 a b h w ho hk
  · exact i0_14 a b h w ho hk
  · exact i0_15 a b h w ho hk
  · exact i0_16 a b h w ho hk
  · exact i0_17 a b h w ho hk
  · exact i0_18 a b h w ho hk
  · exact i0_19 a b h w ho hk
  · exact i0_20 a b h w ho hk
  · exact i0_21 a b h w ho hk
  · exact i0_22 a b h w ho hk
  · exact i0_23 a b h w ho hk
  · exact i0_24 a b h w ho hk
  · exact i0_25 a b h w ho hk
  · exact i0_26 a b h w ho hk
  · exact i0_27 a b h w ho hk
  · exact i0_28 a b h w ho hk
  · exact i0_29 a b h w ho hk
  · exact i0_30 a b h w ho hk
  · exact i0_31 a b h w ho hk
  · exact i0_32 a b h w ho hk
  · exact i0_33 a b h w ho hk
  · exact i0_34 a b h w ho hk
  · exact i0_35 a b h w ho hk
  · exact i0_36 a b h w ho hk
  · exact i0_37 a b h w ho hk
  · exact i0_38 a b h w ho hk
  · exact i0_39 a b h w ho hk
  · exact i0_40 a b h w ho hk
  · exact i0_41 a b h w ho hk
  · exact i0_42 a b h w ho hk
  · exact i0_43 a b h w ho hk
  · exact i0_44 a b h w ho hk
  · exact i0_45 a b h w ho hk
  · exact i0_46 a b h w ho hk
  · exact i0_47 a b h w ho hk
  · exact i0_48 a b h w ho hk
  · exact i0_49 a b h w ho hk
  · exact i0_50 a b h w ho hk
  · exact i0_51 a b h w ho hk
  · exact i0_52 a b h w ho hk
  · exact i0_53 a b h w ho hk
  · exact i0_54 a b h w ho hk
  · exact i0_55 a b h w ho hk
  · exact i0_56 a b h w ho hk
  · exact i0_57 a b h w ho hk
  · exact i0_58 a b h w ho hk
  · exact i0_59 a b h w ho hk
  · exact i0_60 a b h w ho hk
  · exact i0_61 a b h w ho hk
  · exact i0_62 a b h w ho hk
  · exact i0_63 a b h w ho hk
