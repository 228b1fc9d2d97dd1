/-- a load that comes later -/
theorem fin_late (a b : St) (h : Rel a b) (w d v : Int32) (hd : d.toInt < 32) (hn : zb (isB w (ush w (26 : Int32)) (w &&& (63 : Int32))) = 0) : Fin (sU (sU (sU (bg a) 6 2 1) 6 0 d) 6 1 v) (sU (sU (rd b w) 0 24 d) 0 25 v) := by
  have hR := rel_bg a b w h
  have b6 := bg_6 a
  refine fin2 _ _ ?_ ?_ ?_ ?_ ?_ ?_ ?_ ?_
  · rw [rel_out, rel_out, rel_out, rel_scr _ _ _ _ (by decide), rel_scr _ _ _ _ (by decide)]; exact hR
  · rw [isB_eq]; simp only [sU_at, reduceIte, Nat.reduceEqDiff, b6.2.2.1, rd_17, rd_18, rd_21, hn]; rfl
  · simp only [sU_at, reduceIte, Nat.reduceEqDiff]; decide
  · simp only [sU_at, reduceIte, Nat.reduceEqDiff, b6.2.2.2, rd_26, h.1.2.1]
  · simp only [sU_at, reduceIte, Nat.reduceEqDiff]
  · simp only [sU_at, reduceIte, Nat.reduceEqDiff]
  · simp only [sU_at, reduceIte, Nat.reduceEqDiff, rd_22]
  · simp only [sU_at, reduceIte, Nat.reduceEqDiff]; exact hd
theorem fin_c (a b : St) (h : Rel a b) (w : Int32) (hn : zb (isB w (ush w (26 : Int32)) (w &&& (63 : Int32))) = 0) (k q : Nat) (x y : Int32) (hq : q < 17) (hR : Rel (sU (bg a) 5 k x) (sU (rd b w) 0 q y)) : Fin (sU (bg a) 5 k x) (sU (rd b w) 0 q y) := by
  have b6 := bg_6 a
  refine fin_nop _ _ b w hn hR ?_ ?_ ?_ ?_ ?_
  · simp only [sU_at, reduceIte, Nat.reduceEqDiff, b6.1]
  · simp only [sU_at, reduceIte, Nat.reduceEqDiff, b6.2.1]
  · simp only [sU_at, reduceIte, Nat.reduceEqDiff, b6.2.2.1]
  · simp only [sU_at, reduceIte, Nat.reduceEqDiff, b6.2.2.2, rd_26, h.1.2.1]
  · intro z hz
    have : ¬ z = q := by omega
    simp only [sU_at, reduceIte, this]
theorem fin_c0 (a b : St) (h : Rel a b) (w : Int32) (hn : zb (isB w (ush w (26 : Int32)) (w &&& (63 : Int32))) = 0) : Fin (bg a) (rd b w) := by
  have b6 := bg_6 a
  exact fin_nop _ _ b w hn (rel_bg a b w h) b6.1 b6.2.1 b6.2.2.1 (by rw [b6.2.2.2, rd_26, h.1.2.1]) (fun q hq => rfl)
theorem fin_c12 (a b : St) (h : Rel a b) (w v : Int32) (hn : zb (isB w (ush w (26 : Int32)) (w &&& (63 : Int32))) = 0) : Fin (sU (bg a) 5 0 v) (sU (rd b w) 0 5 v) := by
  refine fin_c a b h w hn 0 5 v v (by decide) ?_
  obtain ⟨⟨p1, p2, p3, p4, p5⟩, ⟨r1, r2⟩, ⟨w1, w2, w3⟩, ⟨c1, c2, c3, c4⟩, ⟨d1, d2, d3⟩, m1, m2⟩ := rel_bg a b w h
  simp only [Rel, sU_at, sU_fn]
  simp [*]
  exact ⟨r1, m1⟩
theorem fin_c14 (a b : St) (h : Rel a b) (w v : Int32) (hn : zb (isB w (ush w (26 : Int32)) (w &&& (63 : Int32))) = 0) : Fin (sU (bg a) 5 3 v) (sU (rd b w) 0 10 v) := by
  refine fin_c a b h w hn 3 10 v v (by decide) ?_
  obtain ⟨⟨p1, p2, p3, p4, p5⟩, ⟨r1, r2⟩, ⟨w1, w2, w3⟩, ⟨c1, c2, c3, c4⟩, ⟨d1, d2, d3⟩, m1, m2⟩ := rel_bg a b w h
  simp only [Rel, sU_at, sU_fn]
  simp [*]
  exact ⟨r1, m1⟩
theorem co_set {c s : Int32} (g v : Int32) (hc : sm 64 c) (hs : sm 4 s) : f_S_exchange (co c s g) v (768 : Int32) = co c ((v >>> ((8 : Int32) &&& 31)) &&& (3 : Int32)) g := by
  unfold f_S_exchange co
  refine b_ext (fun i hi => ?_)
  have e0 : bt (if zb g = 0 then (0 : Int32) else (-2147483648 : Int32)) i = (decide (i = 31) && !decide (zb g = 0)) := by
    by_cases hz : zb g = 0
    · simp [hz, b_0]
    · simp [hz, bc_min i hi]
  rw [b_or, b_and, b_and, b_xor, b_m1 i hi, bc_768 i hi, b_or, b_or, b_or, b_or, b_shl2 _ hi, b_shl8 _ hi, b_shl8 _ hi, e0]
  by_cases h1 : 8 ≤ i
  · have h4 : bt c (i - 2) = false := sm_bt (k := 6) hc (by decide) (by decide) (i - 2) (by omega)
    rw [h4, b_and, b_sshr8 _ (by omega), bc_3 _ (by omega)]
    by_cases h2 : i < 10
    · have h3 : ¬ i = 31 := by omega
      have h5 : 8 + (i - 8) < 32 := by omega
      have h6 : 8 + (i - 8) = i := by omega
      have h7 : i - 8 < 2 := by omega
      simp [h1, h2, h3, h6, h7, hi]
    · have h5 : bt s (i - 8) = false := sm_bt (k := 2) hs (by decide) (by decide) (i - 8) (by omega)
      have h7 : ¬ i - 8 < 2 := by omega
      simp [h1, h2, h5, h7]
  · simp [h1]
theorem sm_3 (v : Int32) : sm 4 (v &&& (3 : Int32)) := by
  obtain ⟨j, hj, e⟩ := pk_andE v (m := (3 : Int32)) 2 (by decide)
  exact ⟨j, hj, e⟩
theorem fin_c13 (a b : St) (h : Rel a b) (w v : Int32) (hn : zb (isB w (ush w (26 : Int32)) (w &&& (63 : Int32))) = 0) : Fin (sU (bg a) 5 1 (f_S_exchange (bg a 5 1) v (768 : Int32))) (sU (rd b w) 0 7 ((v >>> ((8 : Int32) &&& 31)) &&& (3 : Int32))) := by
  refine fin_c a b h w hn 1 7 _ _ (by decide) ?_
  obtain ⟨⟨p1, p2, p3, p4, p5⟩, ⟨r1, r2⟩, ⟨w1, w2, w3⟩, ⟨c1, c2, c3, c4⟩, ⟨d1, d2, d3⟩, m1, m2⟩ := rel_bg a b w h
  have e := co_set (rd b w 0 9) v d2 d3
  have e2 := sm_3 (v >>> ((8 : Int32) &&& 31))
  rw [d1, e]
  simp only [Rel, sU_at, sU_fn]
  simp [*]
  exact ⟨r1, m1⟩
theorem i16c (a b : St) (h : Rel a b) (w v : Int32) : f_C_wholeCause (bg a) = f_D_cause (sU (rd b w) 0 24 v) := cause_eq _ _ ((rel_scr _ _ _ _ (by decide)).mpr (rel_bg a b w h))
theorem i16_0 (a b : St) (h : Rel a b) (w : Int32) (ho : ush w (26 : Int32) = 16) (hS : (w >>> ((21 : Int32) &&& 31)) &&& (31 : Int32) = 0) : Per (f_S_perform_b30 w (bg a)) (rd b w) := by
  have hu := user_eq (bg a) (rd b w) (rel_bg a b w h).2.2.2.1.1
  by_cases hz : zb (f_D_user (rd b w)) = 0
  · have hz2 := hu.mpr hz
    right
    have hcau := i16c a b h w (qT w)
    by_cases h8 : (w >>> ((11 : Int32) &&& 31)) &&& (31 : Int32) = 8
    · refine ⟨_, _, ?_, ?_, ?_, fin_late a b h w (qT w) (b 0 11) (and31_lt _) (by rw [ho]; rfl)⟩
      · simp (decide := true) only [f_S_perform_b30, f_S_orderOf, ho, f_S_performControl, f_S_performControl_b24, f_S_performControl_b25, f_S_performControl_b42, f_S_giveLate, f_S_give, f_C_valueOf, f_C_change, f_C_leave, f_S_numberK, nS_eq, nT_eq, nD_eq, vT a b h w, bnd, bnv, zb_0, zb_1, if_true, if_false, hz2, hS, bg_j a 5 (by decide), rd_lo b w 5 (by decide), rd_lo b w 10 (by decide), rd_lo b w 11 (by decide), h.2.2.2.1.1, h.2.2.2.1.2.2.1, h.2.2.2.1.2.2.2, h8]
      · simp (decide := true) only [trb, f_D_isKnown, f_D_isKnown_b182, f_D_isKnown_b199, f_D_isKnown_b232, f_D_isKnown_b250, f_D_isKnown_b268, f_D_trouble_b24, zb_0, zb_1, rd_17, rd_18, rd_21, ho, if_true, if_false, hz, hS, bg_j a 5 (by decide), rd_lo b w 5 (by decide), rd_lo b w 10 (by decide), rd_lo b w 11 (by decide), h.2.2.2.1.1, h.2.2.2.1.2.2.1, h.2.2.2.1.2.2.2, h8]
      · simp (decide := true) only [f_D_act, f_D_control, rd_17, rd_18, rd_20, rd_21, ho, bnv, obv, if_true, if_false, hz, hS, bg_j a 5 (by decide), rd_lo b w 5 (by decide), rd_lo b w 10 (by decide), rd_lo b w 11 (by decide), h.2.2.2.1.1, h.2.2.2.1.2.2.1, h.2.2.2.1.2.2.2, h8]
    by_cases h12 : (w >>> ((11 : Int32) &&& 31)) &&& (31 : Int32) = 12
    · refine ⟨_, _, ?_, ?_, ?_, fin_late a b h w (qT w) (b 0 5) (and31_lt _) (by rw [ho]; rfl)⟩
      · simp (decide := true) only [f_S_perform_b30, f_S_orderOf, ho, f_S_performControl, f_S_performControl_b24, f_S_performControl_b25, f_S_performControl_b42, f_S_giveLate, f_S_give, f_C_valueOf, f_C_change, f_C_leave, f_S_numberK, nS_eq, nT_eq, nD_eq, vT a b h w, bnd, bnv, zb_0, zb_1, if_true, if_false, hz2, hS, bg_j a 5 (by decide), rd_lo b w 5 (by decide), rd_lo b w 10 (by decide), rd_lo b w 11 (by decide), h.2.2.2.1.1, h.2.2.2.1.2.2.1, h.2.2.2.1.2.2.2, h8, h12]
      · simp (decide := true) only [trb, f_D_isKnown, f_D_isKnown_b182, f_D_isKnown_b199, f_D_isKnown_b232, f_D_isKnown_b250, f_D_isKnown_b268, f_D_trouble_b24, zb_0, zb_1, rd_17, rd_18, rd_21, ho, if_true, if_false, hz, hS, bg_j a 5 (by decide), rd_lo b w 5 (by decide), rd_lo b w 10 (by decide), rd_lo b w 11 (by decide), h.2.2.2.1.1, h.2.2.2.1.2.2.1, h.2.2.2.1.2.2.2, h8, h12]
      · simp (decide := true) only [f_D_act, f_D_control, rd_17, rd_18, rd_20, rd_21, ho, bnv, obv, if_true, if_false, hz, hS, bg_j a 5 (by decide), rd_lo b w 5 (by decide), rd_lo b w 10 (by decide), rd_lo b w 11 (by decide), h.2.2.2.1.1, h.2.2.2.1.2.2.1, h.2.2.2.1.2.2.2, h8, h12]
    by_cases h13 : (w >>> ((11 : Int32) &&& 31)) &&& (31 : Int32) = 13
    · refine ⟨_, _, ?_, ?_, ?_, fin_late a b h w (qT w) (f_D_cause (sU (rd b w) 0 24 (qT w))) (and31_lt _) (by rw [ho]; rfl)⟩
      · simp (decide := true) only [f_S_perform_b30, f_S_orderOf, ho, f_S_performControl, f_S_performControl_b24, f_S_performControl_b25, f_S_performControl_b42, f_S_giveLate, f_S_give, f_C_valueOf, f_C_change, f_C_leave, f_S_numberK, nS_eq, nT_eq, nD_eq, vT a b h w, bnd, bnv, zb_0, zb_1, if_true, if_false, hz2, hS, bg_j a 5 (by decide), rd_lo b w 5 (by decide), rd_lo b w 10 (by decide), rd_lo b w 11 (by decide), h.2.2.2.1.1, h.2.2.2.1.2.2.1, h.2.2.2.1.2.2.2, h8, h12, h13, hcau]
      · simp (decide := true) only [trb, f_D_isKnown, f_D_isKnown_b182, f_D_isKnown_b199, f_D_isKnown_b232, f_D_isKnown_b250, f_D_isKnown_b268, f_D_trouble_b24, zb_0, zb_1, rd_17, rd_18, rd_21, ho, if_true, if_false, hz, hS, bg_j a 5 (by decide), rd_lo b w 5 (by decide), rd_lo b w 10 (by decide), rd_lo b w 11 (by decide), h.2.2.2.1.1, h.2.2.2.1.2.2.1, h.2.2.2.1.2.2.2, h8, h12, h13, hcau]
      · simp (decide := true) only [f_D_act, f_D_control, rd_17, rd_18, rd_20, rd_21, ho, bnv, obv, if_true, if_false, hz, hS, bg_j a 5 (by decide), rd_lo b w 5 (by decide), rd_lo b w 10 (by decide), rd_lo b w 11 (by decide), h.2.2.2.1.1, h.2.2.2.1.2.2.1, h.2.2.2.1.2.2.2, h8, h12, h13, hcau]
    by_cases h14 : (w >>> ((11 : Int32) &&& 31)) &&& (31 : Int32) = 14
    · refine ⟨_, _, ?_, ?_, ?_, fin_late a b h w (qT w) (b 0 10) (and31_lt _) (by rw [ho]; rfl)⟩
      · simp (decide := true) only [f_S_perform_b30, f_S_orderOf, ho, f_S_performControl, f_S_performControl_b24, f_S_performControl_b25, f_S_performControl_b42, f_S_giveLate, f_S_give, f_C_valueOf, f_C_change, f_C_leave, f_S_numberK, nS_eq, nT_eq, nD_eq, vT a b h w, bnd, bnv, zb_0, zb_1, if_true, if_false, hz2, hS, bg_j a 5 (by decide), rd_lo b w 5 (by decide), rd_lo b w 10 (by decide), rd_lo b w 11 (by decide), h.2.2.2.1.1, h.2.2.2.1.2.2.1, h.2.2.2.1.2.2.2, h8, h12, h13, h14]
      · simp (decide := true) only [trb, f_D_isKnown, f_D_isKnown_b182, f_D_isKnown_b199, f_D_isKnown_b232, f_D_isKnown_b250, f_D_isKnown_b268, f_D_trouble_b24, zb_0, zb_1, rd_17, rd_18, rd_21, ho, if_true, if_false, hz, hS, bg_j a 5 (by decide), rd_lo b w 5 (by decide), rd_lo b w 10 (by decide), rd_lo b w 11 (by decide), h.2.2.2.1.1, h.2.2.2.1.2.2.1, h.2.2.2.1.2.2.2, h8, h12, h13, h14]
      · simp (decide := true) only [f_D_act, f_D_control, rd_17, rd_18, rd_20, rd_21, ho, bnv, obv, if_true, if_false, hz, hS, bg_j a 5 (by decide), rd_lo b w 5 (by decide), rd_lo b w 10 (by decide), rd_lo b w 11 (by decide), h.2.2.2.1.1, h.2.2.2.1.2.2.1, h.2.2.2.1.2.2.2, h8, h12, h13, h14]
    refine ⟨_, _, ?_, ?_, ?_, fin_late a b h w (qT w) 0 (and31_lt _) (by rw [ho]; rfl)⟩
    · simp (decide := true) only [f_S_perform_b30, f_S_orderOf, ho, f_S_performControl, f_S_performControl_b24, f_S_performControl_b25, f_S_performControl_b42, f_S_giveLate, f_S_give, f_C_valueOf, f_C_change, f_C_leave, f_S_numberK, nS_eq, nT_eq, nD_eq, vT a b h w, bnd, bnv, zb_0, zb_1, if_true, if_false, hz2, hS, bg_j a 5 (by decide), rd_lo b w 5 (by decide), rd_lo b w 10 (by decide), rd_lo b w 11 (by decide), h.2.2.2.1.1, h.2.2.2.1.2.2.1, h.2.2.2.1.2.2.2, h8, h12, h13, h14]
    · simp (decide := true) only [trb, f_D_isKnown, f_D_isKnown_b182, f_D_isKnown_b199, f_D_isKnown_b232, f_D_isKnown_b250, f_D_isKnown_b268, f_D_trouble_b24, zb_0, zb_1, rd_17, rd_18, rd_21, ho, if_true, if_false, hz, hS, bg_j a 5 (by decide), rd_lo b w 5 (by decide), rd_lo b w 10 (by decide), rd_lo b w 11 (by decide), h.2.2.2.1.1, h.2.2.2.1.2.2.1, h.2.2.2.1.2.2.2, h8, h12, h13, h14]
    · simp (decide := true) only [f_D_act, f_D_control, rd_17, rd_18, rd_20, rd_21, ho, bnv, obv, if_true, if_false, hz, hS, bg_j a 5 (by decide), rd_lo b w 5 (by decide), rd_lo b w 10 (by decide), rd_lo b w 11 (by decide), h.2.2.2.1.1, h.2.2.2.1.2.2.1, h.2.2.2.1.2.2.2, h8, h12, h13, h14]
  · have hz2 : ¬ zb (f_C_isUser (bg a)) = 0 := fun z => hz (hu.mp z)
    left
    refine ⟨(11 : Int32), _, _, ⟨sm11, by decide, by decide, by decide, by decide⟩, ?_, ?_, rel_bg a b w h⟩
    · simp (decide := true) only [f_S_perform_b30, f_S_orderOf, ho, f_S_performControl, f_S_performControl_b24, f_S_performControl_b25, f_S_performControl_b42, f_S_giveLate, f_S_give, f_C_valueOf, f_C_change, f_C_leave, f_S_numberK, nS_eq, nT_eq, nD_eq, vT a b h w, bnd, bnv, zb_0, zb_1, if_true, if_false, hz2, hS]
    · simp (decide := true) only [trb, f_D_isKnown, f_D_isKnown_b182, f_D_isKnown_b199, f_D_isKnown_b232, f_D_isKnown_b250, f_D_isKnown_b268, f_D_trouble_b24, zb_0, zb_1, rd_17, rd_18, rd_21, ho, if_true, if_false, hz, hS]
theorem i16_4 (a b : St) (h : Rel a b) (w : Int32) (ho : ush w (26 : Int32) = 16) (hS : (w >>> ((21 : Int32) &&& 31)) &&& (31 : Int32) = 4) : Per (f_S_perform_b30 w (bg a)) (rd b w) := by
  have hu := user_eq (bg a) (rd b w) (rel_bg a b w h).2.2.2.1.1
  by_cases hz : zb (f_D_user (rd b w)) = 0
  · have hz2 := hu.mpr hz
    right
    by_cases h12 : (w >>> ((11 : Int32) &&& 31)) &&& (31 : Int32) = 12
    · refine ⟨_, _, ?_, ?_, ?_, fin_c12 a b h w (tv b w &&& (65343 : Int32)) (by rw [ho]; rfl)⟩
      · simp (decide := true) only [f_S_perform_b30, f_S_orderOf, ho, f_S_performControl, f_S_performControl_b24, f_S_performControl_b25, f_S_performControl_b42, f_S_giveLate, f_S_give, f_C_valueOf, f_C_change, f_C_leave, f_S_numberK, nS_eq, nT_eq, nD_eq, vT a b h w, bnd, bnv, zb_0, zb_1, if_true, if_false, hz2, hS, h12]
      · simp (decide := true) only [trb, f_D_isKnown, f_D_isKnown_b182, f_D_isKnown_b199, f_D_isKnown_b232, f_D_isKnown_b250, f_D_isKnown_b268, f_D_trouble_b24, zb_0, zb_1, rd_17, rd_18, rd_21, ho, if_true, if_false, hz, hS, h12]
      · simp (decide := true) only [f_D_act, f_D_control, rd_17, rd_18, rd_20, rd_21, ho, bnv, obv, if_true, if_false, hz, hS, h12]
    by_cases h13 : (w >>> ((11 : Int32) &&& 31)) &&& (31 : Int32) = 13
    · refine ⟨_, _, ?_, ?_, ?_, fin_c13 a b h w (tv b w) (by rw [ho]; rfl)⟩
      · simp (decide := true) only [f_S_perform_b30, f_S_orderOf, ho, f_S_performControl, f_S_performControl_b24, f_S_performControl_b25, f_S_performControl_b42, f_S_giveLate, f_S_give, f_C_valueOf, f_C_change, f_C_leave, f_S_numberK, nS_eq, nT_eq, nD_eq, vT a b h w, bnd, bnv, zb_0, zb_1, if_true, if_false, hz2, hS, h12, h13]
      · simp (decide := true) only [trb, f_D_isKnown, f_D_isKnown_b182, f_D_isKnown_b199, f_D_isKnown_b232, f_D_isKnown_b250, f_D_isKnown_b268, f_D_trouble_b24, zb_0, zb_1, rd_17, rd_18, rd_21, ho, if_true, if_false, hz, hS, h12, h13]
      · simp (decide := true) only [f_D_act, f_D_control, rd_17, rd_18, rd_20, rd_21, ho, bnv, obv, if_true, if_false, hz, hS, h12, h13]
    by_cases h14 : (w >>> ((11 : Int32) &&& 31)) &&& (31 : Int32) = 14
    · refine ⟨_, _, ?_, ?_, ?_, fin_c14 a b h w (tv b w) (by rw [ho]; rfl)⟩
      · simp (decide := true) only [f_S_perform_b30, f_S_orderOf, ho, f_S_performControl, f_S_performControl_b24, f_S_performControl_b25, f_S_performControl_b42, f_S_giveLate, f_S_give, f_C_valueOf, f_C_change, f_C_leave, f_S_numberK, nS_eq, nT_eq, nD_eq, vT a b h w, bnd, bnv, zb_0, zb_1, if_true, if_false, hz2, hS, h12, h13, h14]
      · simp (decide := true) only [trb, f_D_isKnown, f_D_isKnown_b182, f_D_isKnown_b199, f_D_isKnown_b232, f_D_isKnown_b250, f_D_isKnown_b268, f_D_trouble_b24, zb_0, zb_1, rd_17, rd_18, rd_21, ho, if_true, if_false, hz, hS, h12, h13, h14]
      · simp (decide := true) only [f_D_act, f_D_control, rd_17, rd_18, rd_20, rd_21, ho, bnv, obv, if_true, if_false, hz, hS, h12, h13, h14]
    refine ⟨_, _, ?_, ?_, ?_, fin_c0 a b h w (by rw [ho]; rfl)⟩
    · simp (decide := true) only [f_S_perform_b30, f_S_orderOf, ho, f_S_performControl, f_S_performControl_b24, f_S_performControl_b25, f_S_performControl_b42, f_S_giveLate, f_S_give, f_C_valueOf, f_C_change, f_C_leave, f_S_numberK, nS_eq, nT_eq, nD_eq, vT a b h w, bnd, bnv, zb_0, zb_1, if_true, if_false, hz2, hS, h12, h13, h14]
    · simp (decide := true) only [trb, f_D_isKnown, f_D_isKnown_b182, f_D_isKnown_b199, f_D_isKnown_b232, f_D_isKnown_b250, f_D_isKnown_b268, f_D_trouble_b24, zb_0, zb_1, rd_17, rd_18, rd_21, ho, if_true, if_false, hz, hS, h12, h13, h14]
    · simp (decide := true) only [f_D_act, f_D_control, rd_17, rd_18, rd_20, rd_21, ho, bnv, obv, if_true, if_false, hz, hS, h12, h13, h14]
  · have hz2 : ¬ zb (f_C_isUser (bg a)) = 0 := fun z => hz (hu.mp z)
    left
    refine ⟨(11 : Int32), _, _, ⟨sm11, by decide, by decide, by decide, by decide⟩, ?_, ?_, rel_bg a b w h⟩
    · simp (decide := true) only [f_S_perform_b30, f_S_orderOf, ho, f_S_performControl, f_S_performControl_b24, f_S_performControl_b25, f_S_performControl_b42, f_S_giveLate, f_S_give, f_C_valueOf, f_C_change, f_C_leave, f_S_numberK, nS_eq, nT_eq, nD_eq, vT a b h w, bnd, bnv, zb_0, zb_1, if_true, if_false, hz2, hS]
    · simp (decide := true) only [trb, f_D_isKnown, f_D_isKnown_b182, f_D_isKnown_b199, f_D_isKnown_b232, f_D_isKnown_b250, f_D_isKnown_b268, f_D_trouble_b24, zb_0, zb_1, rd_17, rd_18, rd_21, ho, if_true, if_false, hz, hS]
theorem i16_16 (a b : St) (h : Rel a b) (w : Int32) (ho : ush w (26 : Int32) = 16) (hS : (w >>> ((21 : Int32) &&& 31)) &&& (31 : Int32) = 16) (hk : w &&& (63 : Int32) = 16) : Per (f_S_perform_b30 w (bg a)) (rd b w) := by
  have hu := user_eq (bg a) (rd b w) (rel_bg a b w h).2.2.2.1.1
  by_cases hz : zb (f_D_user (rd b w)) = 0
  · have hz2 := hu.mpr hz
    right
    refine ⟨_, _, ?_, ?_, ?_, fin_c12 a b h w ((b 0 5 &&& (-16 : Int32)) ||| ((b 0 5 >>> ((2 : Int32) &&& 31)) &&& (15 : Int32))) (by rw [ho]; rfl)⟩
    · simp (decide := true) only [f_S_perform_b30, f_S_orderOf, ho, f_S_performControl, f_S_performControl_b24, f_S_performControl_b25, f_S_performControl_b42, f_S_giveLate, f_S_give, f_C_valueOf, f_C_change, f_C_leave, f_S_numberK, nS_eq, nT_eq, nD_eq, vT a b h w, bnd, bnv, zb_0, zb_1, if_true, if_false, hz2, hS, hk, st_lv, bg_j a 5 (by decide), h.2.2.2.1.1, rd_lo b w 5 (by decide)]
    · simp (decide := true) only [trb, f_D_isKnown, f_D_isKnown_b182, f_D_isKnown_b199, f_D_isKnown_b232, f_D_isKnown_b250, f_D_isKnown_b268, f_D_trouble_b24, zb_0, zb_1, rd_17, rd_18, rd_21, ho, if_true, if_false, hz, hS, hk, st_lv, bg_j a 5 (by decide), h.2.2.2.1.1, rd_lo b w 5 (by decide)]
    · simp (decide := true) only [f_D_act, f_D_control, rd_17, rd_18, rd_20, rd_21, ho, bnv, obv, if_true, if_false, hz, hS, hk, st_lv, bg_j a 5 (by decide), h.2.2.2.1.1, rd_lo b w 5 (by decide)]
  · have hz2 : ¬ zb (f_C_isUser (bg a)) = 0 := fun z => hz (hu.mp z)
    left
    refine ⟨(11 : Int32), _, _, ⟨sm11, by decide, by decide, by decide, by decide⟩, ?_, ?_, rel_bg a b w h⟩
    · simp (decide := true) only [f_S_perform_b30, f_S_orderOf, ho, f_S_performControl, f_S_performControl_b24, f_S_performControl_b25, f_S_performControl_b42, f_S_giveLate, f_S_give, f_C_valueOf, f_C_change, f_C_leave, f_S_numberK, nS_eq, nT_eq, nD_eq, vT a b h w, bnd, bnv, zb_0, zb_1, if_true, if_false, hz2, hS, hk]
    · simp (decide := true) only [trb, f_D_isKnown, f_D_isKnown_b182, f_D_isKnown_b199, f_D_isKnown_b232, f_D_isKnown_b250, f_D_isKnown_b268, f_D_trouble_b24, zb_0, zb_1, rd_17, rd_18, rd_21, ho, if_true, if_false, hz, hS, hk]
theorem i16_16n (a b : St) (h : Rel a b) (w : Int32) (ho : ush w (26 : Int32) = 16) (hS : (w >>> ((21 : Int32) &&& 31)) &&& (31 : Int32) = 16) (hk : ¬ w &&& (63 : Int32) = 16) : Per (f_S_perform_b30 w (bg a)) (rd b w) := by
  have hu := user_eq (bg a) (rd b w) (rel_bg a b w h).2.2.2.1.1
  left
  refine ⟨(10 : Int32), _, _, ⟨sm10, by decide, by decide, by decide, by decide⟩, ?_, ?_, rel_bg a b w h⟩
  · simp (decide := true) only [f_S_perform_b30, f_S_orderOf, ho, f_S_performControl, f_S_performControl_b24, f_S_performControl_b25, f_S_performControl_b42, f_S_giveLate, f_S_give, f_C_valueOf, f_C_change, f_C_leave, f_S_numberK, nS_eq, nT_eq, nD_eq, vT a b h w, bnd, bnv, zb_0, zb_1, if_true, if_false, hS, hk]
  · simp (decide := true) only [trb, f_D_isKnown, f_D_isKnown_b182, f_D_isKnown_b199, f_D_isKnown_b232, f_D_isKnown_b250, f_D_isKnown_b268, f_D_trouble_b24, zb_0, zb_1, rd_17, rd_18, rd_21, ho, if_true, if_false, hS, hk]
theorem i16_1 (a b : St) (h : Rel a b) (w : Int32) (ho : ush w (26 : Int32) = 16) (hS : (w >>> ((21 : Int32) &&& 31)) &&& (31 : Int32) = 1) : Per (f_S_perform_b30 w (bg a)) (rd b w) := by
  have hu := user_eq (bg a) (rd b w) (rel_bg a b w h).2.2.2.1.1
  left
  refine ⟨(10 : Int32), _, _, ⟨sm10, by decide, by decide, by decide, by decide⟩, ?_, ?_, rel_bg a b w h⟩
  · simp (decide := true) only [f_S_perform_b30, f_S_orderOf, ho, f_S_performControl, f_S_performControl_b24, f_S_performControl_b25, f_S_performControl_b42, f_S_giveLate, f_S_give, f_C_valueOf, f_C_change, f_C_leave, f_S_numberK, nS_eq, nT_eq, nD_eq, vT a b h w, bnd, bnv, zb_0, zb_1, if_true, if_false, hS]
  · simp (decide := true) only [trb, f_D_isKnown, f_D_isKnown_b182, f_D_isKnown_b199, f_D_isKnown_b232, f_D_isKnown_b250, f_D_isKnown_b268, f_D_trouble_b24, zb_0, zb_1, rd_17, rd_18, rd_21, ho, if_true, if_false, hS]
theorem i16_2 (a b : St) (h : Rel a b) (w : Int32) (ho : ush w (26 : Int32) = 16) (hS : (w >>> ((21 : Int32) &&& 31)) &&& (31 : Int32) = 2) : Per (f_S_perform_b30 w (bg a)) (rd b w) := by
  have hu := user_eq (bg a) (rd b w) (rel_bg a b w h).2.2.2.1.1
  left
  refine ⟨(10 : Int32), _, _, ⟨sm10, by decide, by decide, by decide, by decide⟩, ?_, ?_, rel_bg a b w h⟩
  · simp (decide := true) only [f_S_perform_b30, f_S_orderOf, ho, f_S_performControl, f_S_performControl_b24, f_S_performControl_b25, f_S_performControl_b42, f_S_giveLate, f_S_give, f_C_valueOf, f_C_change, f_C_leave, f_S_numberK, nS_eq, nT_eq, nD_eq, vT a b h w, bnd, bnv, zb_0, zb_1, if_true, if_false, hS]
  · simp (decide := true) only [trb, f_D_isKnown, f_D_isKnown_b182, f_D_isKnown_b199, f_D_isKnown_b232, f_D_isKnown_b250, f_D_isKnown_b268, f_D_trouble_b24, zb_0, zb_1, rd_17, rd_18, rd_21, ho, if_true, if_false, hS]
theorem i16_3 (a b : St) (h : Rel a b) (w : Int32) (ho : ush w (26 : Int32) = 16) (hS : (w >>> ((21 : Int32) &&& 31)) &&& (31 : Int32) = 3) : Per (f_S_perform_b30 w (bg a)) (rd b w) := by
  have hu := user_eq (bg a) (rd b w) (rel_bg a b w h).2.2.2.1.1
  left
  refine ⟨(10 : Int32), _, _, ⟨sm10, by decide, by decide, by decide, by decide⟩, ?_, ?_, rel_bg a b w h⟩
  · simp (decide := true) only [f_S_perform_b30, f_S_orderOf, ho, f_S_performControl, f_S_performControl_b24, f_S_performControl_b25, f_S_performControl_b42, f_S_giveLate, f_S_give, f_C_valueOf, f_C_change, f_C_leave, f_S_numberK, nS_eq, nT_eq, nD_eq, vT a b h w, bnd, bnv, zb_0, zb_1, if_true, if_false, hS]
  · simp (decide := true) only [trb, f_D_isKnown, f_D_isKnown_b182, f_D_isKnown_b199, f_D_isKnown_b232, f_D_isKnown_b250, f_D_isKnown_b268, f_D_trouble_b24, zb_0, zb_1, rd_17, rd_18, rd_21, ho, if_true, if_false, hS]
theorem i16_5 (a b : St) (h : Rel a b) (w : Int32) (ho : ush w (26 : Int32) = 16) (hS : (w >>> ((21 : Int32) &&& 31)) &&& (31 : Int32) = 5) : Per (f_S_perform_b30 w (bg a)) (rd b w) := by
  have hu := user_eq (bg a) (rd b w) (rel_bg a b w h).2.2.2.1.1
  left
  refine ⟨(10 : Int32), _, _, ⟨sm10, by decide, by decide, by decide, by decide⟩, ?_, ?_, rel_bg a b w h⟩
  · simp (decide := true) only [f_S_perform_b30, f_S_orderOf, ho, f_S_performControl, f_S_performControl_b24, f_S_performControl_b25, f_S_performControl_b42, f_S_giveLate, f_S_give, f_C_valueOf, f_C_change, f_C_leave, f_S_numberK, nS_eq, nT_eq, nD_eq, vT a b h w, bnd, bnv, zb_0, zb_1, if_true, if_false, hS]
  · simp (decide := true) only [trb, f_D_isKnown, f_D_isKnown_b182, f_D_isKnown_b199, f_D_isKnown_b232, f_D_isKnown_b250, f_D_isKnown_b268, f_D_trouble_b24, zb_0, zb_1, rd_17, rd_18, rd_21, ho, if_true, if_false, hS]
theorem i16_6 (a b : St) (h : Rel a b) (w : Int32) (ho : ush w (26 : Int32) = 16) (hS : (w >>> ((21 : Int32) &&& 31)) &&& (31 : Int32) = 6) : Per (f_S_perform_b30 w (bg a)) (rd b w) := by
  have hu := user_eq (bg a) (rd b w) (rel_bg a b w h).2.2.2.1.1
  left
  refine ⟨(10 : Int32), _, _, ⟨sm10, by decide, by decide, by decide, by decide⟩, ?_, ?_, rel_bg a b w h⟩
  · simp (decide := true) only [f_S_perform_b30, f_S_orderOf, ho, f_S_performControl, f_S_performControl_b24, f_S_performControl_b25, f_S_performControl_b42, f_S_giveLate, f_S_give, f_C_valueOf, f_C_change, f_C_leave, f_S_numberK, nS_eq, nT_eq, nD_eq, vT a b h w, bnd, bnv, zb_0, zb_1, if_true, if_false, hS]
  · simp (decide := true) only [trb, f_D_isKnown, f_D_isKnown_b182, f_D_isKnown_b199, f_D_isKnown_b232, f_D_isKnown_b250, f_D_isKnown_b268, f_D_trouble_b24, zb_0, zb_1, rd_17, rd_18, rd_21, ho, if_true, if_false, hS]
theorem i16_7 (a b : St) (h : Rel a b) (w : Int32) (ho : ush w (26 : Int32) = 16) (hS : (w >>> ((21 : Int32) &&& 31)) &&& (31 : Int32) = 7) : Per (f_S_perform_b30 w (bg a)) (rd b w) := by
  have hu := user_eq (bg a) (rd b w) (rel_bg a b w h).2.2.2.1.1
  left
  refine ⟨(10 : Int32), _, _, ⟨sm10, by decide, by decide, by decide, by decide⟩, ?_, ?_, rel_bg a b w h⟩
  · simp (decide := true) only [f_S_perform_b30, f_S_orderOf, ho, f_S_performControl, f_S_performControl_b24, f_S_performControl_b25, f_S_performControl_b42, f_S_giveLate, f_S_give, f_C_valueOf, f_C_change, f_C_leave, f_S_numberK, nS_eq, nT_eq, nD_eq, vT a b h w, bnd, bnv, zb_0, zb_1, if_true, if_false, hS]
  · simp (decide := true) only [trb, f_D_isKnown, f_D_isKnown_b182, f_D_isKnown_b199, f_D_isKnown_b232, f_D_isKnown_b250, f_D_isKnown_b268, f_D_trouble_b24, zb_0, zb_1, rd_17, rd_18, rd_21, ho, if_true, if_false, hS]
theorem i16_8 (a b : St) (h : Rel a b) (w : Int32) (ho : ush w (26 : Int32) = 16) (hS : (w >>> ((21 : Int32) &&& 31)) &&& (31 : Int32) = 8) : Per (f_S_perform_b30 w (bg a)) (rd b w) := by
  have hu := user_eq (bg a) (rd b w) (rel_bg a b w h).2.2.2.1.1
  left
  refine ⟨(10 : Int32), _, _, ⟨sm10, by decide, by decide, by decide, by decide⟩, ?_, ?_, rel_bg a b w h⟩
  · simp (decide := true) only [f_S_perform_b30, f_S_orderOf, ho, f_S_performControl, f_S_performControl_b24, f_S_performControl_b25, f_S_performControl_b42, f_S_giveLate, f_S_give, f_C_valueOf, f_C_change, f_C_leave, f_S_numberK, nS_eq, nT_eq, nD_eq, vT a b h w, bnd, bnv, zb_0, zb_1, if_true, if_false, hS]
  · simp (decide := true) only [trb, f_D_isKnown, f_D_isKnown_b182, f_D_isKnown_b199, f_D_isKnown_b232, f_D_isKnown_b250, f_D_isKnown_b268, f_D_trouble_b24, zb_0, zb_1, rd_17, rd_18, rd_21, ho, if_true, if_false, hS]
theorem i16_9 (a b : St) (h : Rel a b) (w : Int32) (ho : ush w (26 : Int32) = 16) (hS : (w >>> ((21 : Int32) &&& 31)) &&& (31 : Int32) = 9) : Per (f_S_perform_b30 w (bg a)) (rd b w) := by
  have hu := user_eq (bg a) (rd b w) (rel_bg a b w h).2.2.2.1.1
  left
  refine ⟨(10 : Int32), _, _, ⟨sm10, by decide, by decide, by decide, by decide⟩, ?_, ?_, rel_bg a b w h⟩
  · simp (decide := true) only [f_S_perform_b30, f_S_orderOf, ho, f_S_performControl, f_S_performControl_b24, f_S_performControl_b25, f_S_performControl_b42, f_S_giveLate, f_S_give, f_C_valueOf, f_C_change, f_C_leave, f_S_numberK, nS_eq, nT_eq, nD_eq, vT a b h w, bnd, bnv, zb_0, zb_1, if_true, if_false, hS]
  · simp (decide := true) only [trb, f_D_isKnown, f_D_isKnown_b182, f_D_isKnown_b199, f_D_isKnown_b232, f_D_isKnown_b250, f_D_isKnown_b268, f_D_trouble_b24, zb_0, zb_1, rd_17, rd_18, rd_21, ho, if_true, if_false, hS]
theorem i16_10 (a b : St) (h : Rel a b) (w : Int32) (ho : ush w (26 : Int32) = 16) (hS : (w >>> ((21 : Int32) &&& 31)) &&& (31 : Int32) = 10) : Per (f_S_perform_b30 w (bg a)) (rd b w) := by
  have hu := user_eq (bg a) (rd b w) (rel_bg a b w h).2.2.2.1.1
  left
  refine ⟨(10 : Int32), _, _, ⟨sm10, by decide, by decide, by decide, by decide⟩, ?_, ?_, rel_bg a b w h⟩
  · simp (decide := true) only [f_S_perform_b30, f_S_orderOf, ho, f_S_performControl, f_S_performControl_b24, f_S_performControl_b25, f_S_performControl_b42, f_S_giveLate, f_S_give, f_C_valueOf, f_C_change, f_C_leave, f_S_numberK, nS_eq, nT_eq, nD_eq, vT a b h w, bnd, bnv, zb_0, zb_1, if_true, if_false, hS]
  · simp (decide := true) only [trb, f_D_isKnown, f_D_isKnown_b182, f_D_isKnown_b199, f_D_isKnown_b232, f_D_isKnown_b250, f_D_isKnown_b268, f_D_trouble_b24, zb_0, zb_1, rd_17, rd_18, rd_21, ho, if_true, if_false, hS]
theorem i16_11 (a b : St) (h : Rel a b) (w : Int32) (ho : ush w (26 : Int32) = 16) (hS : (w >>> ((21 : Int32) &&& 31)) &&& (31 : Int32) = 11) : Per (f_S_perform_b30 w (bg a)) (rd b w) := by
  have hu := user_eq (bg a) (rd b w) (rel_bg a b w h).2.2.2.1.1
  left
  refine ⟨(10 : Int32), _, _, ⟨sm10, by decide, by decide, by decide, by decide⟩, ?_, ?_, rel_bg a b w h⟩
  · simp (decide := true) only [f_S_perform_b30, f_S_orderOf, ho, f_S_performControl, f_S_performControl_b24, f_S_performControl_b25, f_S_performControl_b42, f_S_giveLate, f_S_give, f_C_valueOf, f_C_change, f_C_leave, f_S_numberK, nS_eq, nT_eq, nD_eq, vT a b h w, bnd, bnv, zb_0, zb_1, if_true, if_false, hS]
  · simp (decide := true) only [trb, f_D_isKnown, f_D_isKnown_b182, f_D_isKnown_b199, f_D_isKnown_b232, f_D_isKnown_b250, f_D_isKnown_b268, f_D_trouble_b24, zb_0, zb_1, rd_17, rd_18, rd_21, ho, if_true, if_false, hS]
theorem i16_12 (a b : St) (h : Rel a b) (w : Int32) (ho : ush w (26 : Int32) = 16) (hS : (w >>> ((21 : Int32) &&& 31)) &&& (31 : Int32) = 12) : Per (f_S_perform_b30 w (bg a)) (rd b w) := by
  have hu := user_eq (bg a) (rd b w) (rel_bg a b w h).2.2.2.1.1
  left
  refine ⟨(10 : Int32), _, _, ⟨sm10, by decide, by decide, by decide, by decide⟩, ?_, ?_, rel_bg a b w h⟩
  · simp (decide := true) only [f_S_perform_b30, f_S_orderOf, ho, f_S_performControl, f_S_performControl_b24, f_S_performControl_b25, f_S_performControl_b42, f_S_giveLate, f_S_give, f_C_valueOf, f_C_change, f_C_leave, f_S_numberK, nS_eq, nT_eq, nD_eq, vT a b h w, bnd, bnv, zb_0, zb_1, if_true, if_false, hS]
  · simp (decide := true) only [trb, f_D_isKnown, f_D_isKnown_b182, f_D_isKnown_b199, f_D_isKnown_b232, f_D_isKnown_b250, f_D_isKnown_b268, f_D_trouble_b24, zb_0, zb_1, rd_17, rd_18, rd_21, ho, if_true, if_false, hS]
theorem i16_13 (a b : St) (h : Rel a b) (w : Int32) (ho : ush w (26 : Int32) = 16) (hS : (w >>> ((21 : Int32) &&& 31)) &&& (31 : Int32) = 13) : Per (f_S_perform_b30 w (bg a)) (rd b w) := by
  have hu := user_eq (bg a) (rd b w) (rel_bg a b w h).2.2.2.1.1
  left
  refine ⟨(10 : Int32), _, _, ⟨sm10, by decide, by decide, by decide, by decide⟩, ?_, ?_, rel_bg a b w h⟩
  · simp (decide := true) only [f_S_perform_b30, f_S_orderOf, ho, f_S_performControl, f_S_performControl_b24, f_S_performControl_b25, f_S_performControl_b42, f_S_giveLate, f_S_give, f_C_valueOf, f_C_change, f_C_leave, f_S_numberK, nS_eq, nT_eq, nD_eq, vT a b h w, bnd, bnv, zb_0, zb_1, if_true, if_false, hS]
  · simp (decide := true) only [trb, f_D_isKnown, f_D_isKnown_b182, f_D_isKnown_b199, f_D_isKnown_b232, f_D_isKnown_b250, f_D_isKnown_b268, f_D_trouble_b24, zb_0, zb_1, rd_17, rd_18, rd_21, ho, if_true, if_false, hS]
theorem i16_14 (a b : St) (h : Rel a b) (w : Int32) (ho : ush w (26 : Int32) = 16) (hS : (w >>> ((21 : Int32) &&& 31)) &&& (31 : Int32) = 14) : Per (f_S_perform_b30 w (bg a)) (rd b w) := by
  have hu := user_eq (bg a) (rd b w) (rel_bg a b w h).2.2.2.1.1
  left
  refine ⟨(10 : Int32), _, _, ⟨sm10, by decide, by decide, by decide, by decide⟩, ?_, ?_, rel_bg a b w h⟩
  · simp (decide := true) only [f_S_perform_b30, f_S_orderOf, ho, f_S_performControl, f_S_performControl_b24, f_S_performControl_b25, f_S_performControl_b42, f_S_giveLate, f_S_give, f_C_valueOf, f_C_change, f_C_leave, f_S_numberK, nS_eq, nT_eq, nD_eq, vT a b h w, bnd, bnv, zb_0, zb_1, if_true, if_false, hS]
  · simp (decide := true) only [trb, f_D_isKnown, f_D_isKnown_b182, f_D_isKnown_b199, f_D_isKnown_b232, f_D_isKnown_b250, f_D_isKnown_b268, f_D_trouble_b24, zb_0, zb_1, rd_17, rd_18, rd_21, ho, if_true, if_false, hS]
theorem i16_15 (a b : St) (h : Rel a b) (w : Int32) (ho : ush w (26 : Int32) = 16) (hS : (w >>> ((21 : Int32) &&& 31)) &&& (31 : Int32) = 15) : Per (f_S_perform_b30 w (bg a)) (rd b w) := by
  have hu := user_eq (bg a) (rd b w) (rel_bg a b w h).2.2.2.1.1
  left
  refine ⟨(10 : Int32), _, _, ⟨sm10, by decide, by decide, by decide, by decide⟩, ?_, ?_, rel_bg a b w h⟩
  · simp (decide := true) only [f_S_perform_b30, f_S_orderOf, ho, f_S_performControl, f_S_performControl_b24, f_S_performControl_b25, f_S_performControl_b42, f_S_giveLate, f_S_give, f_C_valueOf, f_C_change, f_C_leave, f_S_numberK, nS_eq, nT_eq, nD_eq, vT a b h w, bnd, bnv, zb_0, zb_1, if_true, if_false, hS]
  · simp (decide := true) only [trb, f_D_isKnown, f_D_isKnown_b182, f_D_isKnown_b199, f_D_isKnown_b232, f_D_isKnown_b250, f_D_isKnown_b268, f_D_trouble_b24, zb_0, zb_1, rd_17, rd_18, rd_21, ho, if_true, if_false, hS]
theorem i16_17 (a b : St) (h : Rel a b) (w : Int32) (ho : ush w (26 : Int32) = 16) (hS : (w >>> ((21 : Int32) &&& 31)) &&& (31 : Int32) = 17) : Per (f_S_perform_b30 w (bg a)) (rd b w) := by
  have hu := user_eq (bg a) (rd b w) (rel_bg a b w h).2.2.2.1.1
  left
  refine ⟨(10 : Int32), _, _, ⟨sm10, by decide, by decide, by decide, by decide⟩, ?_, ?_, rel_bg a b w h⟩
  · simp (decide := true) only [f_S_perform_b30, f_S_orderOf, ho, f_S_performControl, f_S_performControl_b24, f_S_performControl_b25, f_S_performControl_b42, f_S_giveLate, f_S_give, f_C_valueOf, f_C_change, f_C_leave, f_S_numberK, nS_eq, nT_eq, nD_eq, vT a b h w, bnd, bnv, zb_0, zb_1, if_true, if_false, hS]
  · simp (decide := true) only [trb, f_D_isKnown, f_D_isKnown_b182, f_D_isKnown_b199, f_D_isKnown_b232, f_D_isKnown_b250, f_D_isKnown_b268, f_D_trouble_b24, zb_0, zb_1, rd_17, rd_18, rd_21, ho, if_true, if_false, hS]
theorem i16_18 (a b : St) (h : Rel a b) (w : Int32) (ho : ush w (26 : Int32) = 16) (hS : (w >>> ((21 : Int32) &&& 31)) &&& (31 : Int32) = 18) : Per (f_S_perform_b30 w (bg a)) (rd b w) := by
  have hu := user_eq (bg a) (rd b w) (rel_bg a b w h).2.2.2.1.1
  left
  refine ⟨(10 : Int32), _, _, ⟨sm10, by decide, by decide, by decide, by decide⟩, ?_, ?_, rel_bg a b w h⟩
  · simp (decide := true) only [f_S_perform_b30, f_S_orderOf, ho, f_S_performControl, f_S_performControl_b24, f_S_performControl_b25, f_S_performControl_b42, f_S_giveLate, f_S_give, f_C_valueOf, f_C_change, f_C_leave, f_S_numberK, nS_eq, nT_eq, nD_eq, vT a b h w, bnd, bnv, zb_0, zb_1, if_true, if_false, hS]
  · simp (decide := true) only [trb, f_D_isKnown, f_D_isKnown_b182, f_D_isKnown_b199, f_D_isKnown_b232, f_D_isKnown_b250, f_D_isKnown_b268, f_D_trouble_b24, zb_0, zb_1, rd_17, rd_18, rd_21, ho, if_true, if_false, hS]
theorem i16_19 (a b : St) (h : Rel a b) (w : Int32) (ho : ush w (26 : Int32) = 16) (hS : (w >>> ((21 : Int32) &&& 31)) &&& (31 : Int32) = 19) : Per (f_S_perform_b30 w (bg a)) (rd b w) := by
  have hu := user_eq (bg a) (rd b w) (rel_bg a b w h).2.2.2.1.1
  left
  refine ⟨(10 : Int32), _, _, ⟨sm10, by decide, by decide, by decide, by decide⟩, ?_, ?_, rel_bg a b w h⟩
  · simp (decide := true) only [f_S_perform_b30, f_S_orderOf, ho, f_S_performControl, f_S_performControl_b24, f_S_performControl_b25, f_S_performControl_b42, f_S_giveLate, f_S_give, f_C_valueOf, f_C_change, f_C_leave, f_S_numberK, nS_eq, nT_eq, nD_eq, vT a b h w, bnd, bnv, zb_0, zb_1, if_true, if_false, hS]
  · simp (decide := true) only [trb, f_D_isKnown, f_D_isKnown_b182, f_D_isKnown_b199, f_D_isKnown_b232, f_D_isKnown_b250, f_D_isKnown_b268, f_D_trouble_b24, zb_0, zb_1, rd_17, rd_18, rd_21, ho, if_true, if_false, hS]
theorem i16_20 (a b : St) (h : Rel a b) (w : Int32) (ho : ush w (26 : Int32) = 16) (hS : (w >>> ((21 : Int32) &&& 31)) &&& (31 : Int32) = 20) : Per (f_S_perform_b30 w (bg a)) (rd b w) := by
  have hu := user_eq (bg a) (rd b w) (rel_bg a b w h).2.2.2.1.1
  left
  refine ⟨(10 : Int32), _, _, ⟨sm10, by decide, by decide, by decide, by decide⟩, ?_, ?_, rel_bg a b w h⟩
  · simp (decide := true) only [f_S_perform_b30, f_S_orderOf, ho, f_S_performControl, f_S_performControl_b24, f_S_performControl_b25, f_S_performControl_b42, f_S_giveLate, f_S_give, f_C_valueOf, f_C_change, f_C_leave, f_S_numberK, nS_eq, nT_eq, nD_eq, vT a b h w, bnd, bnv, zb_0, zb_1, if_true, if_false, hS]
  · simp (decide := true) only [trb, f_D_isKnown, f_D_isKnown_b182, f_D_isKnown_b199, f_D_isKnown_b232, f_D_isKnown_b250, f_D_isKnown_b268, f_D_trouble_b24, zb_0, zb_1, rd_17, rd_18, rd_21, ho, if_true, if_false, hS]
theorem i16_21 (a b : St) (h : Rel a b) (w : Int32) (ho : ush w (26 : Int32) = 16) (hS : (w >>> ((21 : Int32) &&& 31)) &&& (31 : Int32) = 21) : Per (f_S_perform_b30 w (bg a)) (rd b w) := by
  have hu := user_eq (bg a) (rd b w) (rel_bg a b w h).2.2.2.1.1
  left
  refine ⟨(10 : Int32), _, _, ⟨sm10, by decide, by decide, by decide, by decide⟩, ?_, ?_, rel_bg a b w h⟩
  · simp (decide := true) only [f_S_perform_b30, f_S_orderOf, ho, f_S_performControl, f_S_performControl_b24, f_S_performControl_b25, f_S_performControl_b42, f_S_giveLate, f_S_give, f_C_valueOf, f_C_change, f_C_leave, f_S_numberK, nS_eq, nT_eq, nD_eq, vT a b h w, bnd, bnv, zb_0, zb_1, if_true, if_false, hS]
  · simp (decide := true) only [trb, f_D_isKnown, f_D_isKnown_b182, f_D_isKnown_b199, f_D_isKnown_b232, f_D_isKnown_b250, f_D_isKnown_b268, f_D_trouble_b24, zb_0, zb_1, rd_17, rd_18, rd_21, ho, if_true, if_false, hS]
theorem i16_22 (a b : St) (h : Rel a b) (w : Int32) (ho : ush w (26 : Int32) = 16) (hS : (w >>> ((21 : Int32) &&& 31)) &&& (31 : Int32) = 22) : Per (f_S_perform_b30 w (bg a)) (rd b w) := by
  have hu := user_eq (bg a) (rd b w) (rel_bg a b w h).2.2.2.1.1
  left
  refine ⟨(10 : Int32), _, _, ⟨sm10, by decide, by decide, by decide, by decide⟩, ?_, ?_, rel_bg a b w h⟩
  · simp (decide := true) only [f_S_perform_b30, f_S_orderOf, ho, f_S_performControl, f_S_performControl_b24, f_S_performControl_b25, f_S_performControl_b42, f_S_giveLate, f_S_give, f_C_valueOf, f_C_change, f_C_leave, f_S_numberK, nS_eq, nT_eq, nD_eq, vT a b h w, bnd, bnv, zb_0, zb_1, if_true, if_false, hS]
  · simp (decide := true) only [trb, f_D_isKnown, f_D_isKnown_b182, f_D_isKnown_b199, f_D_isKnown_b232, f_D_isKnown_b250, f_D_isKnown_b268, f_D_trouble_b24, zb_0, zb_1, rd_17, rd_18, rd_21, ho, if_true, if_false, hS]
theorem i16_23 (a b : St) (h : Rel a b) (w : Int32) (ho : ush w (26 : Int32) = 16) (hS : (w >>> ((21 : Int32) &&& 31)) &&& (31 : Int32) = 23) : Per (f_S_perform_b30 w (bg a)) (rd b w) := by
  have hu := user_eq (bg a) (rd b w) (rel_bg a b w h).2.2.2.1.1
  left
  refine ⟨(10 : Int32), _, _, ⟨sm10, by decide, by decide, by decide, by decide⟩, ?_, ?_, rel_bg a b w h⟩
  · simp (decide := true) only [f_S_perform_b30, f_S_orderOf, ho, f_S_performControl, f_S_performControl_b24, f_S_performControl_b25, f_S_performControl_b42, f_S_giveLate, f_S_give, f_C_valueOf, f_C_change, f_C_leave, f_S_numberK, nS_eq, nT_eq, nD_eq, vT a b h w, bnd, bnv, zb_0, zb_1, if_true, if_false, hS]
  · simp (decide := true) only [trb, f_D_isKnown, f_D_isKnown_b182, f_D_isKnown_b199, f_D_isKnown_b232, f_D_isKnown_b250, f_D_isKnown_b268, f_D_trouble_b24, zb_0, zb_1, rd_17, rd_18, rd_21, ho, if_true, if_false, hS]
theorem i16_24 (a b : St) (h : Rel a b) (w : Int32) (ho : ush w (26 : Int32) = 16) (hS : (w >>> ((21 : Int32) &&& 31)) &&& (31 : Int32) = 24) : Per (f_S_perform_b30 w (bg a)) (rd b w) := by
  have hu := user_eq (bg a) (rd b w) (rel_bg a b w h).2.2.2.1.1
  left
  refine ⟨(10 : Int32), _, _, ⟨sm10, by decide, by decide, by decide, by decide⟩, ?_, ?_, rel_bg a b w h⟩
  · simp (decide := true) only [f_S_perform_b30, f_S_orderOf, ho, f_S_performControl, f_S_performControl_b24, f_S_performControl_b25, f_S_performControl_b42, f_S_giveLate, f_S_give, f_C_valueOf, f_C_change, f_C_leave, f_S_numberK, nS_eq, nT_eq, nD_eq, vT a b h w, bnd, bnv, zb_0, zb_1, if_true, if_false, hS]
  · simp (decide := true) only [trb, f_D_isKnown, f_D_isKnown_b182, f_D_isKnown_b199, f_D_isKnown_b232, f_D_isKnown_b250, f_D_isKnown_b268, f_D_trouble_b24, zb_0, zb_1, rd_17, rd_18, rd_21, ho, if_true, if_false, hS]
theorem i16_25 (a b : St) (h : Rel a b) (w : Int32) (ho : ush w (26 : Int32) = 16) (hS : (w >>> ((21 : Int32) &&& 31)) &&& (31 : Int32) = 25) : Per (f_S_perform_b30 w (bg a)) (rd b w) := by
  have hu := user_eq (bg a) (rd b w) (rel_bg a b w h).2.2.2.1.1
  left
  refine ⟨(10 : Int32), _, _, ⟨sm10, by decide, by decide, by decide, by decide⟩, ?_, ?_, rel_bg a b w h⟩
  · simp (decide := true) only [f_S_perform_b30, f_S_orderOf, ho, f_S_performControl, f_S_performControl_b24, f_S_performControl_b25, f_S_performControl_b42, f_S_giveLate, f_S_give, f_C_valueOf, f_C_change, f_C_leave, f_S_numberK, nS_eq, nT_eq, nD_eq, vT a b h w, bnd, bnv, zb_0, zb_1, if_true, if_false, hS]
  · simp (decide := true) only [trb, f_D_isKnown, f_D_isKnown_b182, f_D_isKnown_b199, f_D_isKnown_b232, f_D_isKnown_b250, f_D_isKnown_b268, f_D_trouble_b24, zb_0, zb_1, rd_17, rd_18, rd_21, ho, if_true, if_false, hS]
theorem i16_26 (a b : St) (h : Rel a b) (w : Int32) (ho : ush w (26 : Int32) = 16) (hS : (w >>> ((21 : Int32) &&& 31)) &&& (31 : Int32) = 26) : Per (f_S_perform_b30 w (bg a)) (rd b w) := by
  have hu := user_eq (bg a) (rd b w) (rel_bg a b w h).2.2.2.1.1
  left
  refine ⟨(10 : Int32), _, _, ⟨sm10, by decide, by decide, by decide, by decide⟩, ?_, ?_, rel_bg a b w h⟩
  · simp (decide := true) only [f_S_perform_b30, f_S_orderOf, ho, f_S_performControl, f_S_performControl_b24, f_S_performControl_b25, f_S_performControl_b42, f_S_giveLate, f_S_give, f_C_valueOf, f_C_change, f_C_leave, f_S_numberK, nS_eq, nT_eq, nD_eq, vT a b h w, bnd, bnv, zb_0, zb_1, if_true, if_false, hS]
  · simp (decide := true) only [trb, f_D_isKnown, f_D_isKnown_b182, f_D_isKnown_b199, f_D_isKnown_b232, f_D_isKnown_b250, f_D_isKnown_b268, f_D_trouble_b24, zb_0, zb_1, rd_17, rd_18, rd_21, ho, if_true, if_false, hS]
theorem i16_27 (a b : St) (h : Rel a b) (w : Int32) (ho : ush w (26 : Int32) = 16) (hS : (w >>> ((21 : Int32) &&& 31)) &&& (31 : Int32) = 27) : Per (f_S_perform_b30 w (bg a)) (rd b w) := by
  have hu := user_eq (bg a) (rd b w) (rel_bg a b w h).2.2.2.1.1
  left
  refine ⟨(10 : Int32), _, _, ⟨sm10, by decide, by decide, by decide, by decide⟩, ?_, ?_, rel_bg a b w h⟩
  · simp (decide := true) only [f_S_perform_b30, f_S_orderOf, ho, f_S_performControl, f_S_performControl_b24, f_S_performControl_b25, f_S_performControl_b42, f_S_giveLate, f_S_give, f_C_valueOf, f_C_change, f_C_leave, f_S_numberK, nS_eq, nT_eq, nD_eq, vT a b h w, bnd, bnv, zb_0, zb_1, if_true, if_false, hS]
  · simp (decide := true) only [trb, f_D_isKnown, f_D_isKnown_b182, f_D_isKnown_b199, f_D_isKnown_b232, f_D_isKnown_b250, f_D_isKnown_b268, f_D_trouble_b24, zb_0, zb_1, rd_17, rd_18, rd_21, ho, if_true, if_false, hS]
theorem i16_28 (a b : St) (h : Rel a b) (w : Int32) (ho : ush w (26 : Int32) = 16) (hS : (w >>> ((21 : Int32) &&& 31)) &&& (31 : Int32) = 28) : Per (f_S_perform_b30 w (bg a)) (rd b w) := by
  have hu := user_eq (bg a) (rd b w) (rel_bg a b w h).2.2.2.1.1
  left
  refine ⟨(10 : Int32), _, _, ⟨sm10, by decide, by decide, by decide, by decide⟩, ?_, ?_, rel_bg a b w h⟩
  · simp (decide := true) only [f_S_perform_b30, f_S_orderOf, ho, f_S_performControl, f_S_performControl_b24, f_S_performControl_b25, f_S_performControl_b42, f_S_giveLate, f_S_give, f_C_valueOf, f_C_change, f_C_leave, f_S_numberK, nS_eq, nT_eq, nD_eq, vT a b h w, bnd, bnv, zb_0, zb_1, if_true, if_false, hS]
  · simp (decide := true) only [trb, f_D_isKnown, f_D_isKnown_b182, f_D_isKnown_b199, f_D_isKnown_b232, f_D_isKnown_b250, f_D_isKnown_b268, f_D_trouble_b24, zb_0, zb_1, rd_17, rd_18, rd_21, ho, if_true, if_false, hS]
theorem i16_29 (a b : St) (h : Rel a b) (w : Int32) (ho : ush w (26 : Int32) = 16) (hS : (w >>> ((21 : Int32) &&& 31)) &&& (31 : Int32) = 29) : Per (f_S_perform_b30 w (bg a)) (rd b w) := by
  have hu := user_eq (bg a) (rd b w) (rel_bg a b w h).2.2.2.1.1
  left
  refine ⟨(10 : Int32), _, _, ⟨sm10, by decide, by decide, by decide, by decide⟩, ?_, ?_, rel_bg a b w h⟩
  · simp (decide := true) only [f_S_perform_b30, f_S_orderOf, ho, f_S_performControl, f_S_performControl_b24, f_S_performControl_b25, f_S_performControl_b42, f_S_giveLate, f_S_give, f_C_valueOf, f_C_change, f_C_leave, f_S_numberK, nS_eq, nT_eq, nD_eq, vT a b h w, bnd, bnv, zb_0, zb_1, if_true, if_false, hS]
  · simp (decide := true) only [trb, f_D_isKnown, f_D_isKnown_b182, f_D_isKnown_b199, f_D_isKnown_b232, f_D_isKnown_b250, f_D_isKnown_b268, f_D_trouble_b24, zb_0, zb_1, rd_17, rd_18, rd_21, ho, if_true, if_false, hS]
theorem i16_30 (a b : St) (h : Rel a b) (w : Int32) (ho : ush w (26 : Int32) = 16) (hS : (w >>> ((21 : Int32) &&& 31)) &&& (31 : Int32) = 30) : Per (f_S_perform_b30 w (bg a)) (rd b w) := by
  have hu := user_eq (bg a) (rd b w) (rel_bg a b w h).2.2.2.1.1
  left
  refine ⟨(10 : Int32), _, _, ⟨sm10, by decide, by decide, by decide, by decide⟩, ?_, ?_, rel_bg a b w h⟩
  · simp (decide := true) only [f_S_perform_b30, f_S_orderOf, ho, f_S_performControl, f_S_performControl_b24, f_S_performControl_b25, f_S_performControl_b42, f_S_giveLate, f_S_give, f_C_valueOf, f_C_change, f_C_leave, f_S_numberK, nS_eq, nT_eq, nD_eq, vT a b h w, bnd, bnv, zb_0, zb_1, if_true, if_false, hS]
  · simp (decide := true) only [trb, f_D_isKnown, f_D_isKnown_b182, f_D_isKnown_b199, f_D_isKnown_b232, f_D_isKnown_b250, f_D_isKnown_b268, f_D_trouble_b24, zb_0, zb_1, rd_17, rd_18, rd_21, ho, if_true, if_false, hS]
theorem i16_31 (a b : St) (h : Rel a b) (w : Int32) (ho : ush w (26 : Int32) = 16) (hS : (w >>> ((21 : Int32) &&& 31)) &&& (31 : Int32) = 31) : Per (f_S_perform_b30 w (bg a)) (rd b w) := by
  have hu := user_eq (bg a) (rd b w) (rel_bg a b w h).2.2.2.1.1
  left
  refine ⟨(10 : Int32), _, _, ⟨sm10, by decide, by decide, by decide, by decide⟩, ?_, ?_, rel_bg a b w h⟩
  · simp (decide := true) only [f_S_perform_b30, f_S_orderOf, ho, f_S_performControl, f_S_performControl_b24, f_S_performControl_b25, f_S_performControl_b42, f_S_giveLate, f_S_give, f_C_valueOf, f_C_change, f_C_leave, f_S_numberK, nS_eq, nT_eq, nD_eq, vT a b h w, bnd, bnv, zb_0, zb_1, if_true, if_false, hS]
  · simp (decide := true) only [trb, f_D_isKnown, f_D_isKnown_b182, f_D_isKnown_b199, f_D_isKnown_b232, f_D_isKnown_b250, f_D_isKnown_b268, f_D_trouble_b24, zb_0, zb_1, rd_17, rd_18, rd_21, ho, if_true, if_false, hS]
theorem ins_16 (a b : St) (h : Rel a b) (w : Int32) (ho : ush w (26 : Int32) = 16) : Per (f_S_perform_b30 w (bg a)) (rd b w) := by
  obtain ⟨n, hn, hk⟩ := and31_nI (w >>> ((21 : Int32) &&& 31))
  have hd : n = 0 ∨ n = 1 ∨ n = 2 ∨ n = 3 ∨ n = 4 ∨ n = 5 ∨ n = 6 ∨ n = 7 ∨ n = 8 ∨ n = 9 ∨ n = 10 ∨ n = 11 ∨ n = 12 ∨ n = 13 ∨ n = 14 ∨ n = 15 ∨ n = 16 ∨ n = 17 ∨ n = 18 ∨ n = 19 ∨ n = 20 ∨ n = 21 ∨ n = 22 ∨ n = 23 ∨ n = 24 ∨ n = 25 ∨ n = 26 ∨ n = 27 ∨ n = 28 ∨ n = 29 ∨ n = 30 ∨ n = 31 := by omega
  rcases hd with rfl | rfl | rfl | rfl | rfl | rfl | rfl | rfl | rfl | rfl | rfl | rfl | rfl | rfl | rfl | rfl | rfl | rfl | rfl | rfl | rfl | rfl | rfl | rfl | rfl | rfl | rfl | rfl | rfl | rfl | rfl | rfl
  · exact i16_0 a b h w ho hk
  · exact i16_1 a b h w ho hk
  · exact i16_2 a b h w ho hk
  · exact i16_3 a b h w ho hk
  · exact i16_4 a b h w ho hk
  · exact i16_5 a b h w ho hk
  · exact i16_6 a b h w ho hk
  · exact i16_7 a b h w ho hk
  · exact i16_8 a b h w ho hk
  · exact i16_9 a b h w ho hk
  · exact i16_10 a b h w ho hk
  · exact i16_11 a b h w ho hk
  · exact i16_12 a b h w ho hk
  · exact i16_13 a b h w ho hk
  · exact i16_14 a b h w ho hk
  · exact i16_15 a b h w ho hk
  · by_cases hq : w &&& (63 : Int32) = 16
    · exact i16_16 a b h w ho hk hq
    · exact i16_16n a b h w ho hk hq
  · exact i16_17 a b h w ho hk
  · exact i16_18 a b h w ho hk
  · exact i16_19 a b h w ho hk
  · exact i16_20 a b h w ho hk
  · exact i16_21 a b h w ho hk
  · exact i16_22 a b h w ho hk
  · exact i16_23 a b h w ho hk
  · exact i16_24 a b h w ho hk
  · exact i16_25 a b h w ho hk
  · exact i16_26 a b h w ho hk
  · exact i16_27 a b h w ho hk
  · exact i16_28 a b h w ho hk
  · exact i16_29 a b h w ho hk
  · exact i16_30 a b h w ho hk
  · exact i16_31 a b h w ho hk
