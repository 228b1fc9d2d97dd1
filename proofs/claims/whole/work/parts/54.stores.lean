theorem idx_j (j k : Nat) (hj : j < 1024) (hk : k < 4) : (f_M_indexOf (nI (4 * j + k))).toNatClampNeg = j := by
  rw [idx_eq _ (by omega)]; omega
theorem word_j (a b : St) (h : Rel a b) (j k : Nat) (hj : j < 1024) (hk : k < 4) : f_M_wordAround (nI (4 * j + k)) a = w4 (b 1) (4 * j) := by
  rw [word_any a b h _ (by omega), show (4 * j + k) / 4 = j by omega]
theorem js_40_0 (f : Nat → Int32) (hb : ∀ i, isb (f i)) (x t : Int32) (q : Nat) (hx : x &&& (3 : Int32) = nI 0) : f_S_joinStored (40 : Int32) (w4 f q) t x = w4b (by0 t) (f (q + 1)) (f (q + 2)) (f (q + 3)) := by
  have e : f_S_toLowest x (1 : Int32) = (24 : Int32) := by
    unfold f_S_toLowest
    rw [hx]
    decide
  simp (decide := true) only [f_S_joinStored, e, if_true, if_false]
  rw [w4_b, sb_0 t (hb _) (hb _) (hb _) (hb _)]
theorem js_41_0 (f : Nat → Int32) (hb : ∀ i, isb (f i)) (x t : Int32) (q : Nat) (hx : x &&& (3 : Int32) = nI 0) : f_S_joinStored (41 : Int32) (w4 f q) t x = w4b (by8 t) (by0 t) (f (q + 2)) (f (q + 3)) := by
  have e : f_S_toLowest x (2 : Int32) = (16 : Int32) := by
    unfold f_S_toLowest
    rw [hx]
    decide
  simp (decide := true) only [f_S_joinStored, e, if_true, if_false]
  rw [w4_b, sh_0 t (hb _) (hb _) (hb _) (hb _)]
theorem js_42_0 (f : Nat → Int32) (hb : ∀ i, isb (f i)) (x t : Int32) (q : Nat) (hx : x &&& (3 : Int32) = nI 0) : f_S_joinStored (42 : Int32) (w4 f q) t x = w4b (by24 (ush t (0 : Int32))) (by16 (ush t (0 : Int32))) (by8 (ush t (0 : Int32))) (by0 (ush t (0 : Int32))) := by
  have e : f_S_bitsAhead x = (0 : Int32) := by
    unfold f_S_bitsAhead
    rw [hx]
    decide
  simp (decide := true) only [f_S_joinStored, e, if_true, if_false]
  rw [w4_b, swl_0 t (hb _) (hb _) (hb _) (hb _)]
theorem js_46_0 (f : Nat → Int32) (hb : ∀ i, isb (f i)) (x t : Int32) (q : Nat) (hx : x &&& (3 : Int32) = nI 0) : f_S_joinStored (46 : Int32) (w4 f q) t x = w4b (by0 t) (f (q + 1)) (f (q + 2)) (f (q + 3)) := by
  have e : f_S_toLowest x (1 : Int32) = (24 : Int32) := by
    unfold f_S_toLowest
    rw [hx]
    decide
  simp (decide := true) only [f_S_joinStored, e, if_true, if_false]
  rw [w4_b, swr_0 t (hb _) (hb _) (hb _) (hb _)]
theorem js_40_1 (f : Nat → Int32) (hb : ∀ i, isb (f i)) (x t : Int32) (q : Nat) (hx : x &&& (3 : Int32) = nI 1) : f_S_joinStored (40 : Int32) (w4 f q) t x = w4b (f q) (by0 t) (f (q + 2)) (f (q + 3)) := by
  have e : f_S_toLowest x (1 : Int32) = (16 : Int32) := by
    unfold f_S_toLowest
    rw [hx]
    decide
  simp (decide := true) only [f_S_joinStored, e, if_true, if_false]
  rw [w4_b, sb_1 t (hb _) (hb _) (hb _) (hb _)]
theorem js_42_1 (f : Nat → Int32) (hb : ∀ i, isb (f i)) (x t : Int32) (q : Nat) (hx : x &&& (3 : Int32) = nI 1) : f_S_joinStored (42 : Int32) (w4 f q) t x = w4b (f q) (by16 (ush t (8 : Int32))) (by8 (ush t (8 : Int32))) (by0 (ush t (8 : Int32))) := by
  have e : f_S_bitsAhead x = (8 : Int32) := by
    unfold f_S_bitsAhead
    rw [hx]
    decide
  simp (decide := true) only [f_S_joinStored, e, if_true, if_false]
  rw [w4_b, swl_1 t (hb _) (hb _) (hb _) (hb _)]
theorem js_46_1 (f : Nat → Int32) (hb : ∀ i, isb (f i)) (x t : Int32) (q : Nat) (hx : x &&& (3 : Int32) = nI 1) : f_S_joinStored (46 : Int32) (w4 f q) t x = w4b (by8 t) (by0 t) (f (q + 2)) (f (q + 3)) := by
  have e : f_S_toLowest x (1 : Int32) = (16 : Int32) := by
    unfold f_S_toLowest
    rw [hx]
    decide
  simp (decide := true) only [f_S_joinStored, e, if_true, if_false]
  rw [w4_b, swr_1 t (hb _) (hb _) (hb _) (hb _)]
theorem js_40_2 (f : Nat → Int32) (hb : ∀ i, isb (f i)) (x t : Int32) (q : Nat) (hx : x &&& (3 : Int32) = nI 2) : f_S_joinStored (40 : Int32) (w4 f q) t x = w4b (f q) (f (q + 1)) (by0 t) (f (q + 3)) := by
  have e : f_S_toLowest x (1 : Int32) = (8 : Int32) := by
    unfold f_S_toLowest
    rw [hx]
    decide
  simp (decide := true) only [f_S_joinStored, e, if_true, if_false]
  rw [w4_b, sb_2 t (hb _) (hb _) (hb _) (hb _)]
theorem js_41_2 (f : Nat → Int32) (hb : ∀ i, isb (f i)) (x t : Int32) (q : Nat) (hx : x &&& (3 : Int32) = nI 2) : f_S_joinStored (41 : Int32) (w4 f q) t x = w4b (f q) (f (q + 1)) (by8 t) (by0 t) := by
  have e : f_S_toLowest x (2 : Int32) = (0 : Int32) := by
    unfold f_S_toLowest
    rw [hx]
    decide
  simp (decide := true) only [f_S_joinStored, e, if_true, if_false]
  rw [w4_b, sh_2 t (hb _) (hb _) (hb _) (hb _)]
theorem js_42_2 (f : Nat → Int32) (hb : ∀ i, isb (f i)) (x t : Int32) (q : Nat) (hx : x &&& (3 : Int32) = nI 2) : f_S_joinStored (42 : Int32) (w4 f q) t x = w4b (f q) (f (q + 1)) (by8 (ush t (16 : Int32))) (by0 (ush t (16 : Int32))) := by
  have e : f_S_bitsAhead x = (16 : Int32) := by
    unfold f_S_bitsAhead
    rw [hx]
    decide
  simp (decide := true) only [f_S_joinStored, e, if_true, if_false]
  rw [w4_b, swl_2 t (hb _) (hb _) (hb _) (hb _)]
theorem js_46_2 (f : Nat → Int32) (hb : ∀ i, isb (f i)) (x t : Int32) (q : Nat) (hx : x &&& (3 : Int32) = nI 2) : f_S_joinStored (46 : Int32) (w4 f q) t x = w4b (by16 t) (by8 t) (by0 t) (f (q + 3)) := by
  have e : f_S_toLowest x (1 : Int32) = (8 : Int32) := by
    unfold f_S_toLowest
    rw [hx]
    decide
  simp (decide := true) only [f_S_joinStored, e, if_true, if_false]
  rw [w4_b, swr_2 t (hb _) (hb _) (hb _) (hb _)]
theorem js_40_3 (f : Nat → Int32) (hb : ∀ i, isb (f i)) (x t : Int32) (q : Nat) (hx : x &&& (3 : Int32) = nI 3) : f_S_joinStored (40 : Int32) (w4 f q) t x = w4b (f q) (f (q + 1)) (f (q + 2)) (by0 t) := by
  have e : f_S_toLowest x (1 : Int32) = (0 : Int32) := by
    unfold f_S_toLowest
    rw [hx]
    decide
  simp (decide := true) only [f_S_joinStored, e, if_true, if_false]
  rw [w4_b, sb_3 t (hb _) (hb _) (hb _) (hb _)]
theorem js_42_3 (f : Nat → Int32) (hb : ∀ i, isb (f i)) (x t : Int32) (q : Nat) (hx : x &&& (3 : Int32) = nI 3) : f_S_joinStored (42 : Int32) (w4 f q) t x = w4b (f q) (f (q + 1)) (f (q + 2)) (by0 (ush t (24 : Int32))) := by
  have e : f_S_bitsAhead x = (24 : Int32) := by
    unfold f_S_bitsAhead
    rw [hx]
    decide
  simp (decide := true) only [f_S_joinStored, e, if_true, if_false]
  rw [w4_b, swl_3 t (hb _) (hb _) (hb _) (hb _)]
theorem js_46_3 (f : Nat → Int32) (hb : ∀ i, isb (f i)) (x t : Int32) (q : Nat) (hx : x &&& (3 : Int32) = nI 3) : f_S_joinStored (46 : Int32) (w4 f q) t x = w4b (by24 t) (by16 t) (by8 t) (by0 t) := by
  have e : f_S_toLowest x (1 : Int32) = (0 : Int32) := by
    unfold f_S_toLowest
    rw [hx]
    decide
  simp (decide := true) only [f_S_joinStored, e, if_true, if_false]
  rw [w4_b, swr_3 t (hb _) (hb _) (hb _) (hb _)]
theorem js_43 (v x t : Int32) : f_S_joinStored (43 : Int32) v t x = w4b (by24 t) (by16 t) (by8 t) (by0 t) := by
  simp (decide := true) only [f_S_joinStored, if_true, if_false]
  exact sw_w t
theorem ins_40 (a b : St) (h : Rel a b) (w : Int32) (ho : ush w (26 : Int32) = 40) : Per (f_S_perform_b30 w (bg a)) (rd b w) := by
  have hR := rel_bg a b w h
  have hb : ∀ i, isb (b 1 i) := h.2.2.2.2.2.2
  have r1 := rd_j b w 1 (by decide)
  have hadt : trb (rd b w) = adt (sv b w + ((w <<< ((16 : Int32) &&& 31)) >>> ((16 : Int32) &&& 31))) (1 : Int32) (sv b w + ((w <<< ((16 : Int32) &&& 31)) >>> ((16 : Int32) &&& 31))) (1 : Int32) (5 : Int32) (rd b w) := by
    simp (decide := true) only [trb, f_D_isKnown, f_D_isKnown_b182, f_D_isKnown_b199, f_D_isKnown_b232, f_D_isKnown_b250, f_D_isKnown_b268, f_D_trouble_b24, f_D_addressTrouble, f_D_addressTrouble_b25, f_D_addressTrouble_b45, f_D_addressTrouble_b65, f_D_addressTrouble_b80, f_D_isPart, f_D_moved, f_D_number, zb_0, zb_1, rd_17, rd_18, rd_19, rd_21, ho, bnd, if_true, if_false]
    rfl
  rcases (e_data (bg a) (rd b w) hR (sv b w + ((w <<< ((16 : Int32) &&& 31)) >>> ((16 : Int32) &&& 31))) (1 : Int32) (sv b w + ((w <<< ((16 : Int32) &&& 31)) >>> ((16 : Int32) &&& 31))) (1 : Int32) (5 : Int32) ⟨sm5, by decide, by decide, by decide, by decide⟩ (hm1 _)).symm with ⟨r, a', b', hr, f1, f2, f3⟩ | ⟨f1, f2, f3, f4⟩
  · left
    refine ⟨r, a', b', hr, ?_, by rw [hadt]; exact f2, f3⟩
    have hr1 := hr.2.2.1
    simp (decide := true) only [f_S_perform_b30, f_S_orderOf, ho, f_S_perform_b272, f_S_performLoad, f_S_perform_b278, f_S_performStore, f_S_addressOf, vS a b h w, vT a b h w, nI_num, nT_eq, f_S_loadUnit, f_S_storeUnit, f_S_giveLate, f_S_give, f_M_replaceWord, bnd, bnv, if_true, if_false, f1, hr1]
  right
  have hpl := pl_eq (sv b w + ((w <<< ((16 : Int32) &&& 31)) >>> ((16 : Int32) &&& 31)))
  obtain ⟨k, hk, hx, hk2⟩ := at4 (sv b w + ((w <<< ((16 : Int32) &&& 31)) >>> ((16 : Int32) &&& 31)))
  have hz := hadt.trans f2
  generalize hp : uX (sv b w + ((w <<< ((16 : Int32) &&& 31)) >>> ((16 : Int32) &&& 31))) % 536870912 = p at *
  obtain ⟨j, hj, hpj⟩ : ∃ j, j < 1024 ∧ p = 4 * j + k := ⟨p / 4, by omega, by omega⟩
  have hd : k = 0 ∨ k = 1 ∨ k = 2 ∨ k = 3 := by omega
  subst hpj
  rcases hd with rfl | rfl | rfl | rfl
  · refine ⟨_, _, ?_, hz, ?_, fin_st a b h w (by rw [ho]; rfl) j (w4b (by0 (tv b w)) (b 1 (4 * j + 1)) (b 1 (4 * j + 2)) (b 1 (4 * j + 3))) (sU (rd b w) 1 (4 * j + 0) (by0 (tv b w))) ?_ ?_ ?_ ?_ ?_⟩
    · simp (decide := true) only [f_S_perform_b30, f_S_orderOf, ho, f_S_perform_b272, f_S_performLoad, f_S_perform_b278, f_S_performStore, f_S_addressOf, vS a b h w, vT a b h w, nI_num, nT_eq, f_S_loadUnit, f_S_storeUnit, f_S_giveLate, f_S_give, f_M_replaceWord, bnd, bnv, if_true, if_false, f1, hpl, word_j (bg a) (rd b w) hR j 0 hj (by omega), idx_j j 0 hj (by omega), r1, js_40_0 (b 1) hb _ _ _ hx]
    · have hs := st_1 (4 * j + 0) (tv b w) (rd b w) (by omega)
      simp (decide := true) only [f_D_act, f_D_memory, f_D_part, f_D_part_b45, f_D_part_b73, f_D_part_b88, f_D_isPart, f_D_moved, f_D_number, zb_0, zb_1, rd_17, rd_18, rd_19, rd_20, rd_21, ho, obv, if_true, if_false, hpl, hs]
    · rw [sU_fn, if_neg (by decide)]; try rfl
    · rw [sU_fn, if_neg (by decide)]; try rfl
    · rw [w4_b]
      simp only [sU_fn, r1, reduceIte, Nat.reduceEqDiff]
      simp [upd] <;> (repeat rw [if_neg (by omega)])
    · intro i hi
      simp only [sU_fn, r1, reduceIte, Nat.reduceEqDiff]
      unfold upd
      rw [if_neg (by omega)]
    · intro i
      simp only [sU_fn, r1, reduceIte, Nat.reduceEqDiff]
      unfold upd
      (repeat' split) <;> first | with_reducible exact by0_b _ | with_reducible exact by8_b _ | with_reducible exact by16_b _ | with_reducible exact by24_b _ | with_reducible exact hb i
  · refine ⟨_, _, ?_, hz, ?_, fin_st a b h w (by rw [ho]; rfl) j (w4b (b 1 (4 * j)) (by0 (tv b w)) (b 1 (4 * j + 2)) (b 1 (4 * j + 3))) (sU (rd b w) 1 (4 * j + 1) (by0 (tv b w))) ?_ ?_ ?_ ?_ ?_⟩
    · simp (decide := true) only [f_S_perform_b30, f_S_orderOf, ho, f_S_perform_b272, f_S_performLoad, f_S_perform_b278, f_S_performStore, f_S_addressOf, vS a b h w, vT a b h w, nI_num, nT_eq, f_S_loadUnit, f_S_storeUnit, f_S_giveLate, f_S_give, f_M_replaceWord, bnd, bnv, if_true, if_false, f1, hpl, word_j (bg a) (rd b w) hR j 1 hj (by omega), idx_j j 1 hj (by omega), r1, js_40_1 (b 1) hb _ _ _ hx]
    · have hs := st_1 (4 * j + 1) (tv b w) (rd b w) (by omega)
      simp (decide := true) only [f_D_act, f_D_memory, f_D_part, f_D_part_b45, f_D_part_b73, f_D_part_b88, f_D_isPart, f_D_moved, f_D_number, zb_0, zb_1, rd_17, rd_18, rd_19, rd_20, rd_21, ho, obv, if_true, if_false, hpl, hs]
    · rw [sU_fn, if_neg (by decide)]; try rfl
    · rw [sU_fn, if_neg (by decide)]; try rfl
    · rw [w4_b]
      simp only [sU_fn, r1, reduceIte, Nat.reduceEqDiff]
      simp [upd] <;> (repeat rw [if_neg (by omega)])
    · intro i hi
      simp only [sU_fn, r1, reduceIte, Nat.reduceEqDiff]
      unfold upd
      rw [if_neg (by omega)]
    · intro i
      simp only [sU_fn, r1, reduceIte, Nat.reduceEqDiff]
      unfold upd
      (repeat' split) <;> first | with_reducible exact by0_b _ | with_reducible exact by8_b _ | with_reducible exact by16_b _ | with_reducible exact by24_b _ | with_reducible exact hb i
  · refine ⟨_, _, ?_, hz, ?_, fin_st a b h w (by rw [ho]; rfl) j (w4b (b 1 (4 * j)) (b 1 (4 * j + 1)) (by0 (tv b w)) (b 1 (4 * j + 3))) (sU (rd b w) 1 (4 * j + 2) (by0 (tv b w))) ?_ ?_ ?_ ?_ ?_⟩
    · simp (decide := true) only [f_S_perform_b30, f_S_orderOf, ho, f_S_perform_b272, f_S_performLoad, f_S_perform_b278, f_S_performStore, f_S_addressOf, vS a b h w, vT a b h w, nI_num, nT_eq, f_S_loadUnit, f_S_storeUnit, f_S_giveLate, f_S_give, f_M_replaceWord, bnd, bnv, if_true, if_false, f1, hpl, word_j (bg a) (rd b w) hR j 2 hj (by omega), idx_j j 2 hj (by omega), r1, js_40_2 (b 1) hb _ _ _ hx]
    · have hs := st_1 (4 * j + 2) (tv b w) (rd b w) (by omega)
      simp (decide := true) only [f_D_act, f_D_memory, f_D_part, f_D_part_b45, f_D_part_b73, f_D_part_b88, f_D_isPart, f_D_moved, f_D_number, zb_0, zb_1, rd_17, rd_18, rd_19, rd_20, rd_21, ho, obv, if_true, if_false, hpl, hs]
    · rw [sU_fn, if_neg (by decide)]; try rfl
    · rw [sU_fn, if_neg (by decide)]; try rfl
    · rw [w4_b]
      simp only [sU_fn, r1, reduceIte, Nat.reduceEqDiff]
      simp [upd] <;> (repeat rw [if_neg (by omega)])
    · intro i hi
      simp only [sU_fn, r1, reduceIte, Nat.reduceEqDiff]
      unfold upd
      rw [if_neg (by omega)]
    · intro i
      simp only [sU_fn, r1, reduceIte, Nat.reduceEqDiff]
      unfold upd
      (repeat' split) <;> first | with_reducible exact by0_b _ | with_reducible exact by8_b _ | with_reducible exact by16_b _ | with_reducible exact by24_b _ | with_reducible exact hb i
  · refine ⟨_, _, ?_, hz, ?_, fin_st a b h w (by rw [ho]; rfl) j (w4b (b 1 (4 * j)) (b 1 (4 * j + 1)) (b 1 (4 * j + 2)) (by0 (tv b w))) (sU (rd b w) 1 (4 * j + 3) (by0 (tv b w))) ?_ ?_ ?_ ?_ ?_⟩
    · simp (decide := true) only [f_S_perform_b30, f_S_orderOf, ho, f_S_perform_b272, f_S_performLoad, f_S_perform_b278, f_S_performStore, f_S_addressOf, vS a b h w, vT a b h w, nI_num, nT_eq, f_S_loadUnit, f_S_storeUnit, f_S_giveLate, f_S_give, f_M_replaceWord, bnd, bnv, if_true, if_false, f1, hpl, word_j (bg a) (rd b w) hR j 3 hj (by omega), idx_j j 3 hj (by omega), r1, js_40_3 (b 1) hb _ _ _ hx]
    · have hs := st_1 (4 * j + 3) (tv b w) (rd b w) (by omega)
      simp (decide := true) only [f_D_act, f_D_memory, f_D_part, f_D_part_b45, f_D_part_b73, f_D_part_b88, f_D_isPart, f_D_moved, f_D_number, zb_0, zb_1, rd_17, rd_18, rd_19, rd_20, rd_21, ho, obv, if_true, if_false, hpl, hs]
    · rw [sU_fn, if_neg (by decide)]; try rfl
    · rw [sU_fn, if_neg (by decide)]; try rfl
    · rw [w4_b]
      simp only [sU_fn, r1, reduceIte, Nat.reduceEqDiff]
      simp [upd] <;> (repeat rw [if_neg (by omega)])
    · intro i hi
      simp only [sU_fn, r1, reduceIte, Nat.reduceEqDiff]
      unfold upd
      rw [if_neg (by omega)]
    · intro i
      simp only [sU_fn, r1, reduceIte, Nat.reduceEqDiff]
      unfold upd
      (repeat' split) <;> first | with_reducible exact by0_b _ | with_reducible exact by8_b _ | with_reducible exact by16_b _ | with_reducible exact by24_b _ | with_reducible exact hb i
theorem ins_41 (a b : St) (h : Rel a b) (w : Int32) (ho : ush w (26 : Int32) = 41) : Per (f_S_perform_b30 w (bg a)) (rd b w) := by
  have hR := rel_bg a b w h
  have hb : ∀ i, isb (b 1 i) := h.2.2.2.2.2.2
  have r1 := rd_j b w 1 (by decide)
  have hadt : trb (rd b w) = adt (sv b w + ((w <<< ((16 : Int32) &&& 31)) >>> ((16 : Int32) &&& 31))) (2 : Int32) (sv b w + ((w <<< ((16 : Int32) &&& 31)) >>> ((16 : Int32) &&& 31))) (2 : Int32) (5 : Int32) (rd b w) := by
    simp (decide := true) only [trb, f_D_isKnown, f_D_isKnown_b182, f_D_isKnown_b199, f_D_isKnown_b232, f_D_isKnown_b250, f_D_isKnown_b268, f_D_trouble_b24, f_D_addressTrouble, f_D_addressTrouble_b25, f_D_addressTrouble_b45, f_D_addressTrouble_b65, f_D_addressTrouble_b80, f_D_isPart, f_D_moved, f_D_number, zb_0, zb_1, rd_17, rd_18, rd_19, rd_21, ho, bnd, if_true, if_false]
    rfl
  rcases (e_data (bg a) (rd b w) hR (sv b w + ((w <<< ((16 : Int32) &&& 31)) >>> ((16 : Int32) &&& 31))) (2 : Int32) (sv b w + ((w <<< ((16 : Int32) &&& 31)) >>> ((16 : Int32) &&& 31))) (2 : Int32) (5 : Int32) ⟨sm5, by decide, by decide, by decide, by decide⟩ (hm2 _)).symm with ⟨r, a', b', hr, f1, f2, f3⟩ | ⟨f1, f2, f3, f4⟩
  · left
    refine ⟨r, a', b', hr, ?_, by rw [hadt]; exact f2, f3⟩
    have hr1 := hr.2.2.1
    simp (decide := true) only [f_S_perform_b30, f_S_orderOf, ho, f_S_perform_b272, f_S_performLoad, f_S_perform_b278, f_S_performStore, f_S_addressOf, vS a b h w, vT a b h w, nI_num, nT_eq, f_S_loadUnit, f_S_storeUnit, f_S_giveLate, f_S_give, f_M_replaceWord, bnd, bnv, if_true, if_false, f1, hr1]
  right
  have hpl := pl_eq (sv b w + ((w <<< ((16 : Int32) &&& 31)) >>> ((16 : Int32) &&& 31)))
  obtain ⟨k, hk, hx, hk2⟩ := at4 (sv b w + ((w <<< ((16 : Int32) &&& 31)) >>> ((16 : Int32) &&& 31)))
  have hz := hadt.trans f2
  generalize hp : uX (sv b w + ((w <<< ((16 : Int32) &&& 31)) >>> ((16 : Int32) &&& 31))) % 536870912 = p at *
  have hev := (al2 _).mp f3
  obtain ⟨j, hj, hpj⟩ : ∃ j, j < 1024 ∧ p = 4 * j + k := ⟨p / 4, by omega, by omega⟩
  have hd : k = 0 ∨ k = 2 := by omega
  subst hpj
  rcases hd with rfl | rfl
  · refine ⟨_, _, ?_, hz, ?_, fin_st a b h w (by rw [ho]; rfl) j (w4b (by8 (tv b w)) (by0 (tv b w)) (b 1 (4 * j + 2)) (b 1 (4 * j + 3))) (sU (sU (rd b w) 1 (4 * j + 0) (by8 (tv b w))) 1 (4 * j + 0 + 1) (by0 (tv b w))) ?_ ?_ ?_ ?_ ?_⟩
    · simp (decide := true) only [f_S_perform_b30, f_S_orderOf, ho, f_S_perform_b272, f_S_performLoad, f_S_perform_b278, f_S_performStore, f_S_addressOf, vS a b h w, vT a b h w, nI_num, nT_eq, f_S_loadUnit, f_S_storeUnit, f_S_giveLate, f_S_give, f_M_replaceWord, bnd, bnv, if_true, if_false, f1, hpl, word_j (bg a) (rd b w) hR j 0 hj (by omega), idx_j j 0 hj (by omega), r1, js_41_0 (b 1) hb _ _ _ hx]
    · have hs := st_2 (4 * j + 0) (tv b w) (rd b w) (by omega)
      simp (decide := true) only [f_D_act, f_D_memory, f_D_part, f_D_part_b45, f_D_part_b73, f_D_part_b88, f_D_isPart, f_D_moved, f_D_number, zb_0, zb_1, rd_17, rd_18, rd_19, rd_20, rd_21, ho, obv, if_true, if_false, hpl, hs]
    · rw [sU_fn, if_neg (by decide), sU_fn, if_neg (by decide)]; try rfl
    · rw [sU_fn, if_neg (by decide), sU_fn, if_neg (by decide)]; try rfl
    · rw [w4_b]
      simp only [sU_fn, r1, reduceIte, Nat.reduceEqDiff]
      simp [upd] <;> (repeat rw [if_neg (by omega)])
    · intro i hi
      simp only [sU_fn, r1, reduceIte, Nat.reduceEqDiff]
      unfold upd
      rw [if_neg (by omega)]
      rw [if_neg (by omega)]
    · intro i
      simp only [sU_fn, r1, reduceIte, Nat.reduceEqDiff]
      unfold upd
      (repeat' split) <;> first | with_reducible exact by0_b _ | with_reducible exact by8_b _ | with_reducible exact by16_b _ | with_reducible exact by24_b _ | with_reducible exact hb i
  · refine ⟨_, _, ?_, hz, ?_, fin_st a b h w (by rw [ho]; rfl) j (w4b (b 1 (4 * j)) (b 1 (4 * j + 1)) (by8 (tv b w)) (by0 (tv b w))) (sU (sU (rd b w) 1 (4 * j + 2) (by8 (tv b w))) 1 (4 * j + 2 + 1) (by0 (tv b w))) ?_ ?_ ?_ ?_ ?_⟩
    · simp (decide := true) only [f_S_perform_b30, f_S_orderOf, ho, f_S_perform_b272, f_S_performLoad, f_S_perform_b278, f_S_performStore, f_S_addressOf, vS a b h w, vT a b h w, nI_num, nT_eq, f_S_loadUnit, f_S_storeUnit, f_S_giveLate, f_S_give, f_M_replaceWord, bnd, bnv, if_true, if_false, f1, hpl, word_j (bg a) (rd b w) hR j 2 hj (by omega), idx_j j 2 hj (by omega), r1, js_41_2 (b 1) hb _ _ _ hx]
    · have hs := st_2 (4 * j + 2) (tv b w) (rd b w) (by omega)
      simp (decide := true) only [f_D_act, f_D_memory, f_D_part, f_D_part_b45, f_D_part_b73, f_D_part_b88, f_D_isPart, f_D_moved, f_D_number, zb_0, zb_1, rd_17, rd_18, rd_19, rd_20, rd_21, ho, obv, if_true, if_false, hpl, hs]
    · rw [sU_fn, if_neg (by decide), sU_fn, if_neg (by decide)]; try rfl
    · rw [sU_fn, if_neg (by decide), sU_fn, if_neg (by decide)]; try rfl
    · rw [w4_b]
      simp only [sU_fn, r1, reduceIte, Nat.reduceEqDiff]
      simp [upd] <;> (repeat rw [if_neg (by omega)])
    · intro i hi
      simp only [sU_fn, r1, reduceIte, Nat.reduceEqDiff]
      unfold upd
      rw [if_neg (by omega)]
      rw [if_neg (by omega)]
    · intro i
      simp only [sU_fn, r1, reduceIte, Nat.reduceEqDiff]
      unfold upd
      (repeat' split) <;> first | with_reducible exact by0_b _ | with_reducible exact by8_b _ | with_reducible exact by16_b _ | with_reducible exact by24_b _ | with_reducible exact hb i
theorem ins_42 (a b : St) (h : Rel a b) (w : Int32) (ho : ush w (26 : Int32) = 42) : Per (f_S_perform_b30 w (bg a)) (rd b w) := by
  have hR := rel_bg a b w h
  have hb : ∀ i, isb (b 1 i) := h.2.2.2.2.2.2
  have r1 := rd_j b w 1 (by decide)
  have hadt : trb (rd b w) = adt (sv b w + ((w <<< ((16 : Int32) &&& 31)) >>> ((16 : Int32) &&& 31))) (1 : Int32) ((sv b w + ((w <<< ((16 : Int32) &&& 31)) >>> ((16 : Int32) &&& 31))) &&& (-4 : Int32)) (4 : Int32) (5 : Int32) (rd b w) := by
    simp (decide := true) only [trb, f_D_isKnown, f_D_isKnown_b182, f_D_isKnown_b199, f_D_isKnown_b232, f_D_isKnown_b250, f_D_isKnown_b268, f_D_trouble_b24, f_D_addressTrouble, f_D_addressTrouble_b25, f_D_addressTrouble_b45, f_D_addressTrouble_b65, f_D_addressTrouble_b80, f_D_isPart, f_D_moved, f_D_number, zb_0, zb_1, rd_17, rd_18, rd_19, rd_21, ho, bnd, if_true, if_false]
    rfl
  rcases (e_data (bg a) (rd b w) hR (sv b w + ((w <<< ((16 : Int32) &&& 31)) >>> ((16 : Int32) &&& 31))) (1 : Int32) ((sv b w + ((w <<< ((16 : Int32) &&& 31)) >>> ((16 : Int32) &&& 31))) &&& (-4 : Int32)) (4 : Int32) (5 : Int32) ⟨sm5, by decide, by decide, by decide, by decide⟩ (hmp _)).symm with ⟨r, a', b', hr, f1, f2, f3⟩ | ⟨f1, f2, f3, f4⟩
  · left
    refine ⟨r, a', b', hr, ?_, by rw [hadt]; exact f2, f3⟩
    have hr1 := hr.2.2.1
    simp (decide := true) only [f_S_perform_b30, f_S_orderOf, ho, f_S_perform_b272, f_S_performLoad, f_S_perform_b278, f_S_performStore, f_S_addressOf, vS a b h w, vT a b h w, nI_num, nT_eq, f_S_loadUnit, f_S_storeUnit, f_S_giveLate, f_S_give, f_M_replaceWord, bnd, bnv, if_true, if_false, f1, hr1]
  right
  have hpl := pl_eq (sv b w + ((w <<< ((16 : Int32) &&& 31)) >>> ((16 : Int32) &&& 31)))
  obtain ⟨k, hk, hx, hk2⟩ := at4 (sv b w + ((w <<< ((16 : Int32) &&& 31)) >>> ((16 : Int32) &&& 31)))
  have hz := hadt.trans f2
  generalize hp : uX (sv b w + ((w <<< ((16 : Int32) &&& 31)) >>> ((16 : Int32) &&& 31))) % 536870912 = p at *
  obtain ⟨j, hj, hpj⟩ : ∃ j, j < 1024 ∧ p = 4 * j + k := ⟨p / 4, by omega, by omega⟩
  have hd : k = 0 ∨ k = 1 ∨ k = 2 ∨ k = 3 := by omega
  subst hpj
  rcases hd with rfl | rfl | rfl | rfl
  · refine ⟨_, _, ?_, hz, ?_, fin_st a b h w (by rw [ho]; rfl) j (w4b (by24 (ush (tv b w) (0 : Int32))) (by16 (ush (tv b w) (0 : Int32))) (by8 (ush (tv b w) (0 : Int32))) (by0 (ush (tv b w) (0 : Int32)))) (sU (sU (sU (sU (rd b w) 1 (4 * j + 0) (by24 (ush (tv b w) (0 : Int32)))) 1 (4 * j + 0 + 1) (by16 (ush (tv b w) (0 : Int32)))) 1 (4 * j + 0 + 2) (by8 (ush (tv b w) (0 : Int32)))) 1 (4 * j + 0 + 3) (by0 (ush (tv b w) (0 : Int32)))) ?_ ?_ ?_ ?_ ?_⟩
    · simp (decide := true) only [f_S_perform_b30, f_S_orderOf, ho, f_S_perform_b272, f_S_performLoad, f_S_perform_b278, f_S_performStore, f_S_addressOf, vS a b h w, vT a b h w, nI_num, nT_eq, f_S_loadUnit, f_S_storeUnit, f_S_giveLate, f_S_give, f_M_replaceWord, bnd, bnv, if_true, if_false, f1, hpl, word_j (bg a) (rd b w) hR j 0 hj (by omega), idx_j j 0 hj (by omega), r1, js_42_0 (b 1) hb _ _ _ hx]
    · have hs := st_4 (4 * j + 0) (ush (tv b w) (0 : Int32)) (rd b w) (by omega)
      have hl := ld_4 (rd b w) (4 * j) (by omega)
      have r2 := rd_j b w 2 (by decide)
      have e1 : nI (4 * j + 0) &&& (-4 : Int32) = nI (4 * j) := by rw [n4, show 4 * ((4 * j + 0) / 4) = 4 * j by omega]
      have e2 : nI (4 * j) + nI 0 = nI (4 * j + 0) := nI_add _ _
      have e3 : (4 : Int32) - nI 0 = (4 : Int32) := by decide
      have e4 : (8 : Int32) * nI 0 = (0 : Int32) := by decide
      by_cases hw : b 0 13 = qT w
      · simp (decide := true) only [f_D_act, f_D_memory, f_D_part, f_D_part_b45, f_D_part_b73, f_D_part_b88, f_D_isPart, f_D_moved, f_D_number, zb_0, zb_1, rd_17, rd_18, rd_19, rd_20, rd_21, ho, obv, if_true, if_false, hpl, hx, e1, e2, e3, e4, hl, hs, r1, r2, rd_lo b w 13 (by decide), rd_lo b w 14 (by decide), inb_q, hw]
      · simp (decide := true) only [f_D_act, f_D_memory, f_D_part, f_D_part_b45, f_D_part_b73, f_D_part_b88, f_D_isPart, f_D_moved, f_D_number, zb_0, zb_1, rd_17, rd_18, rd_19, rd_20, rd_21, ho, obv, if_true, if_false, hpl, hx, e1, e2, e3, e4, hl, hs, r1, r2, rd_lo b w 13 (by decide), rd_lo b w 14 (by decide), inb_q, hw]
    · rw [sU_fn, if_neg (by decide), sU_fn, if_neg (by decide), sU_fn, if_neg (by decide), sU_fn, if_neg (by decide)]; try rfl
    · rw [sU_fn, if_neg (by decide), sU_fn, if_neg (by decide), sU_fn, if_neg (by decide), sU_fn, if_neg (by decide)]; try rfl
    · rw [w4_b]
      simp only [sU_fn, r1, reduceIte, Nat.reduceEqDiff]
      simp [upd] <;> (repeat rw [if_neg (by omega)])
    · intro i hi
      simp only [sU_fn, r1, reduceIte, Nat.reduceEqDiff]
      unfold upd
      rw [if_neg (by omega)]
      rw [if_neg (by omega)]
      rw [if_neg (by omega)]
      rw [if_neg (by omega)]
    · intro i
      simp only [sU_fn, r1, reduceIte, Nat.reduceEqDiff]
      unfold upd
      (repeat' split) <;> first | with_reducible exact by0_b _ | with_reducible exact by8_b _ | with_reducible exact by16_b _ | with_reducible exact by24_b _ | with_reducible exact hb i
  · refine ⟨_, _, ?_, hz, ?_, fin_st a b h w (by rw [ho]; rfl) j (w4b (b 1 (4 * j)) (by16 (ush (tv b w) (8 : Int32))) (by8 (ush (tv b w) (8 : Int32))) (by0 (ush (tv b w) (8 : Int32)))) (sU (sU (sU (rd b w) 1 (4 * j + 1) (by16 (ush (tv b w) (8 : Int32)))) 1 (4 * j + 1 + 1) (by8 (ush (tv b w) (8 : Int32)))) 1 (4 * j + 1 + 2) (by0 (ush (tv b w) (8 : Int32)))) ?_ ?_ ?_ ?_ ?_⟩
    · simp (decide := true) only [f_S_perform_b30, f_S_orderOf, ho, f_S_perform_b272, f_S_performLoad, f_S_perform_b278, f_S_performStore, f_S_addressOf, vS a b h w, vT a b h w, nI_num, nT_eq, f_S_loadUnit, f_S_storeUnit, f_S_giveLate, f_S_give, f_M_replaceWord, bnd, bnv, if_true, if_false, f1, hpl, word_j (bg a) (rd b w) hR j 1 hj (by omega), idx_j j 1 hj (by omega), r1, js_42_1 (b 1) hb _ _ _ hx]
    · have hs := st_3 (4 * j + 1) (ush (tv b w) (8 : Int32)) (rd b w) (by omega)
      have hl := ld_4 (rd b w) (4 * j) (by omega)
      have r2 := rd_j b w 2 (by decide)
      have e1 : nI (4 * j + 1) &&& (-4 : Int32) = nI (4 * j) := by rw [n4, show 4 * ((4 * j + 1) / 4) = 4 * j by omega]
      have e2 : nI (4 * j) + nI 1 = nI (4 * j + 1) := nI_add _ _
      have e3 : (4 : Int32) - nI 1 = (3 : Int32) := by decide
      have e4 : (8 : Int32) * nI 1 = (8 : Int32) := by decide
      by_cases hw : b 0 13 = qT w
      · simp (decide := true) only [f_D_act, f_D_memory, f_D_part, f_D_part_b45, f_D_part_b73, f_D_part_b88, f_D_isPart, f_D_moved, f_D_number, zb_0, zb_1, rd_17, rd_18, rd_19, rd_20, rd_21, ho, obv, if_true, if_false, hpl, hx, e1, e2, e3, e4, hl, hs, r1, r2, rd_lo b w 13 (by decide), rd_lo b w 14 (by decide), inb_q, hw]
      · simp (decide := true) only [f_D_act, f_D_memory, f_D_part, f_D_part_b45, f_D_part_b73, f_D_part_b88, f_D_isPart, f_D_moved, f_D_number, zb_0, zb_1, rd_17, rd_18, rd_19, rd_20, rd_21, ho, obv, if_true, if_false, hpl, hx, e1, e2, e3, e4, hl, hs, r1, r2, rd_lo b w 13 (by decide), rd_lo b w 14 (by decide), inb_q, hw]
    · rw [sU_fn, if_neg (by decide), sU_fn, if_neg (by decide), sU_fn, if_neg (by decide)]; try rfl
    · rw [sU_fn, if_neg (by decide), sU_fn, if_neg (by decide), sU_fn, if_neg (by decide)]; try rfl
    · rw [w4_b]
      simp only [sU_fn, r1, reduceIte, Nat.reduceEqDiff]
      simp [upd] <;> (repeat rw [if_neg (by omega)])
    · intro i hi
      simp only [sU_fn, r1, reduceIte, Nat.reduceEqDiff]
      unfold upd
      rw [if_neg (by omega)]
      rw [if_neg (by omega)]
      rw [if_neg (by omega)]
    · intro i
      simp only [sU_fn, r1, reduceIte, Nat.reduceEqDiff]
      unfold upd
      (repeat' split) <;> first | with_reducible exact by0_b _ | with_reducible exact by8_b _ | with_reducible exact by16_b _ | with_reducible exact by24_b _ | with_reducible exact hb i
  · refine ⟨_, _, ?_, hz, ?_, fin_st a b h w (by rw [ho]; rfl) j (w4b (b 1 (4 * j)) (b 1 (4 * j + 1)) (by8 (ush (tv b w) (16 : Int32))) (by0 (ush (tv b w) (16 : Int32)))) (sU (sU (rd b w) 1 (4 * j + 2) (by8 (ush (tv b w) (16 : Int32)))) 1 (4 * j + 2 + 1) (by0 (ush (tv b w) (16 : Int32)))) ?_ ?_ ?_ ?_ ?_⟩
    · simp (decide := true) only [f_S_perform_b30, f_S_orderOf, ho, f_S_perform_b272, f_S_performLoad, f_S_perform_b278, f_S_performStore, f_S_addressOf, vS a b h w, vT a b h w, nI_num, nT_eq, f_S_loadUnit, f_S_storeUnit, f_S_giveLate, f_S_give, f_M_replaceWord, bnd, bnv, if_true, if_false, f1, hpl, word_j (bg a) (rd b w) hR j 2 hj (by omega), idx_j j 2 hj (by omega), r1, js_42_2 (b 1) hb _ _ _ hx]
    · have hs := st_2 (4 * j + 2) (ush (tv b w) (16 : Int32)) (rd b w) (by omega)
      have hl := ld_4 (rd b w) (4 * j) (by omega)
      have r2 := rd_j b w 2 (by decide)
      have e1 : nI (4 * j + 2) &&& (-4 : Int32) = nI (4 * j) := by rw [n4, show 4 * ((4 * j + 2) / 4) = 4 * j by omega]
      have e2 : nI (4 * j) + nI 2 = nI (4 * j + 2) := nI_add _ _
      have e3 : (4 : Int32) - nI 2 = (2 : Int32) := by decide
      have e4 : (8 : Int32) * nI 2 = (16 : Int32) := by decide
      by_cases hw : b 0 13 = qT w
      · simp (decide := true) only [f_D_act, f_D_memory, f_D_part, f_D_part_b45, f_D_part_b73, f_D_part_b88, f_D_isPart, f_D_moved, f_D_number, zb_0, zb_1, rd_17, rd_18, rd_19, rd_20, rd_21, ho, obv, if_true, if_false, hpl, hx, e1, e2, e3, e4, hl, hs, r1, r2, rd_lo b w 13 (by decide), rd_lo b w 14 (by decide), inb_q, hw]
      · simp (decide := true) only [f_D_act, f_D_memory, f_D_part, f_D_part_b45, f_D_part_b73, f_D_part_b88, f_D_isPart, f_D_moved, f_D_number, zb_0, zb_1, rd_17, rd_18, rd_19, rd_20, rd_21, ho, obv, if_true, if_false, hpl, hx, e1, e2, e3, e4, hl, hs, r1, r2, rd_lo b w 13 (by decide), rd_lo b w 14 (by decide), inb_q, hw]
    · rw [sU_fn, if_neg (by decide), sU_fn, if_neg (by decide)]; try rfl
    · rw [sU_fn, if_neg (by decide), sU_fn, if_neg (by decide)]; try rfl
    · rw [w4_b]
      simp only [sU_fn, r1, reduceIte, Nat.reduceEqDiff]
      simp [upd] <;> (repeat rw [if_neg (by omega)])
    · intro i hi
      simp only [sU_fn, r1, reduceIte, Nat.reduceEqDiff]
      unfold upd
      rw [if_neg (by omega)]
      rw [if_neg (by omega)]
    · intro i
      simp only [sU_fn, r1, reduceIte, Nat.reduceEqDiff]
      unfold upd
      (repeat' split) <;> first | with_reducible exact by0_b _ | with_reducible exact by8_b _ | with_reducible exact by16_b _ | with_reducible exact by24_b _ | with_reducible exact hb i
  · refine ⟨_, _, ?_, hz, ?_, fin_st a b h w (by rw [ho]; rfl) j (w4b (b 1 (4 * j)) (b 1 (4 * j + 1)) (b 1 (4 * j + 2)) (by0 (ush (tv b w) (24 : Int32)))) (sU (rd b w) 1 (4 * j + 3) (by0 (ush (tv b w) (24 : Int32)))) ?_ ?_ ?_ ?_ ?_⟩
    · simp (decide := true) only [f_S_perform_b30, f_S_orderOf, ho, f_S_perform_b272, f_S_performLoad, f_S_perform_b278, f_S_performStore, f_S_addressOf, vS a b h w, vT a b h w, nI_num, nT_eq, f_S_loadUnit, f_S_storeUnit, f_S_giveLate, f_S_give, f_M_replaceWord, bnd, bnv, if_true, if_false, f1, hpl, word_j (bg a) (rd b w) hR j 3 hj (by omega), idx_j j 3 hj (by omega), r1, js_42_3 (b 1) hb _ _ _ hx]
    · have hs := st_1 (4 * j + 3) (ush (tv b w) (24 : Int32)) (rd b w) (by omega)
      have hl := ld_4 (rd b w) (4 * j) (by omega)
      have r2 := rd_j b w 2 (by decide)
      have e1 : nI (4 * j + 3) &&& (-4 : Int32) = nI (4 * j) := by rw [n4, show 4 * ((4 * j + 3) / 4) = 4 * j by omega]
      have e2 : nI (4 * j) + nI 3 = nI (4 * j + 3) := nI_add _ _
      have e3 : (4 : Int32) - nI 3 = (1 : Int32) := by decide
      have e4 : (8 : Int32) * nI 3 = (24 : Int32) := by decide
      by_cases hw : b 0 13 = qT w
      · simp (decide := true) only [f_D_act, f_D_memory, f_D_part, f_D_part_b45, f_D_part_b73, f_D_part_b88, f_D_isPart, f_D_moved, f_D_number, zb_0, zb_1, rd_17, rd_18, rd_19, rd_20, rd_21, ho, obv, if_true, if_false, hpl, hx, e1, e2, e3, e4, hl, hs, r1, r2, rd_lo b w 13 (by decide), rd_lo b w 14 (by decide), inb_q, hw]
      · simp (decide := true) only [f_D_act, f_D_memory, f_D_part, f_D_part_b45, f_D_part_b73, f_D_part_b88, f_D_isPart, f_D_moved, f_D_number, zb_0, zb_1, rd_17, rd_18, rd_19, rd_20, rd_21, ho, obv, if_true, if_false, hpl, hx, e1, e2, e3, e4, hl, hs, r1, r2, rd_lo b w 13 (by decide), rd_lo b w 14 (by decide), inb_q, hw]
    · rw [sU_fn, if_neg (by decide)]; try rfl
    · rw [sU_fn, if_neg (by decide)]; try rfl
    · rw [w4_b]
      simp only [sU_fn, r1, reduceIte, Nat.reduceEqDiff]
      simp [upd] <;> (repeat rw [if_neg (by omega)])
    · intro i hi
      simp only [sU_fn, r1, reduceIte, Nat.reduceEqDiff]
      unfold upd
      rw [if_neg (by omega)]
    · intro i
      simp only [sU_fn, r1, reduceIte, Nat.reduceEqDiff]
      unfold upd
      (repeat' split) <;> first | with_reducible exact by0_b _ | with_reducible exact by8_b _ | with_reducible exact by16_b _ | with_reducible exact by24_b _ | with_reducible exact hb i
theorem ins_43 (a b : St) (h : Rel a b) (w : Int32) (ho : ush w (26 : Int32) = 43) : Per (f_S_perform_b30 w (bg a)) (rd b w) := by
  have hR := rel_bg a b w h
  have hb : ∀ i, isb (b 1 i) := h.2.2.2.2.2.2
  have r1 := rd_j b w 1 (by decide)
  have hadt : trb (rd b w) = adt (sv b w + ((w <<< ((16 : Int32) &&& 31)) >>> ((16 : Int32) &&& 31))) (4 : Int32) (sv b w + ((w <<< ((16 : Int32) &&& 31)) >>> ((16 : Int32) &&& 31))) (4 : Int32) (5 : Int32) (rd b w) := by
    simp (decide := true) only [trb, f_D_isKnown, f_D_isKnown_b182, f_D_isKnown_b199, f_D_isKnown_b232, f_D_isKnown_b250, f_D_isKnown_b268, f_D_trouble_b24, f_D_addressTrouble, f_D_addressTrouble_b25, f_D_addressTrouble_b45, f_D_addressTrouble_b65, f_D_addressTrouble_b80, f_D_isPart, f_D_moved, f_D_number, zb_0, zb_1, rd_17, rd_18, rd_19, rd_21, ho, bnd, if_true, if_false]
    rfl
  rcases (e_data (bg a) (rd b w) hR (sv b w + ((w <<< ((16 : Int32) &&& 31)) >>> ((16 : Int32) &&& 31))) (4 : Int32) (sv b w + ((w <<< ((16 : Int32) &&& 31)) >>> ((16 : Int32) &&& 31))) (4 : Int32) (5 : Int32) ⟨sm5, by decide, by decide, by decide, by decide⟩ (hm4 _)).symm with ⟨r, a', b', hr, f1, f2, f3⟩ | ⟨f1, f2, f3, f4⟩
  · left
    refine ⟨r, a', b', hr, ?_, by rw [hadt]; exact f2, f3⟩
    have hr1 := hr.2.2.1
    simp (decide := true) only [f_S_perform_b30, f_S_orderOf, ho, f_S_perform_b272, f_S_performLoad, f_S_perform_b278, f_S_performStore, f_S_addressOf, vS a b h w, vT a b h w, nI_num, nT_eq, f_S_loadUnit, f_S_storeUnit, f_S_giveLate, f_S_give, f_M_replaceWord, bnd, bnv, if_true, if_false, f1, hr1]
  right
  have hpl := pl_eq (sv b w + ((w <<< ((16 : Int32) &&& 31)) >>> ((16 : Int32) &&& 31)))
  obtain ⟨k, hk, hx, hk2⟩ := at4 (sv b w + ((w <<< ((16 : Int32) &&& 31)) >>> ((16 : Int32) &&& 31)))
  have hz := hadt.trans f2
  generalize hp : uX (sv b w + ((w <<< ((16 : Int32) &&& 31)) >>> ((16 : Int32) &&& 31))) % 536870912 = p at *
  have hev := (al4 _).mp f3
  obtain ⟨j, hj, hpj⟩ : ∃ j, j < 1024 ∧ p = 4 * j + k := ⟨p / 4, by omega, by omega⟩
  have hd : k = 0 := by omega
  subst hpj
  rcases hd with rfl
  · refine ⟨_, _, ?_, hz, ?_, fin_st a b h w (by rw [ho]; rfl) j (w4b (by24 (tv b w)) (by16 (tv b w)) (by8 (tv b w)) (by0 (tv b w))) (sU (sU (sU (sU (rd b w) 1 (4 * j + 0) (by24 (tv b w))) 1 (4 * j + 0 + 1) (by16 (tv b w))) 1 (4 * j + 0 + 2) (by8 (tv b w))) 1 (4 * j + 0 + 3) (by0 (tv b w))) ?_ ?_ ?_ ?_ ?_⟩
    · simp (decide := true) only [f_S_perform_b30, f_S_orderOf, ho, f_S_perform_b272, f_S_performLoad, f_S_perform_b278, f_S_performStore, f_S_addressOf, vS a b h w, vT a b h w, nI_num, nT_eq, f_S_loadUnit, f_S_storeUnit, f_S_giveLate, f_S_give, f_M_replaceWord, bnd, bnv, if_true, if_false, f1, hpl, word_j (bg a) (rd b w) hR j 0 hj (by omega), idx_j j 0 hj (by omega), r1, js_43 _ _ _]
    · have hs := st_4 (4 * j + 0) (tv b w) (rd b w) (by omega)
      simp (decide := true) only [f_D_act, f_D_memory, f_D_part, f_D_part_b45, f_D_part_b73, f_D_part_b88, f_D_isPart, f_D_moved, f_D_number, zb_0, zb_1, rd_17, rd_18, rd_19, rd_20, rd_21, ho, obv, if_true, if_false, hpl, hs]
    · rw [sU_fn, if_neg (by decide), sU_fn, if_neg (by decide), sU_fn, if_neg (by decide), sU_fn, if_neg (by decide)]; try rfl
    · rw [sU_fn, if_neg (by decide), sU_fn, if_neg (by decide), sU_fn, if_neg (by decide), sU_fn, if_neg (by decide)]; try rfl
    · rw [w4_b]
      simp only [sU_fn, r1, reduceIte, Nat.reduceEqDiff]
      simp [upd] <;> (repeat rw [if_neg (by omega)])
    · intro i hi
      simp only [sU_fn, r1, reduceIte, Nat.reduceEqDiff]
      unfold upd
      rw [if_neg (by omega)]
      rw [if_neg (by omega)]
      rw [if_neg (by omega)]
      rw [if_neg (by omega)]
    · intro i
      simp only [sU_fn, r1, reduceIte, Nat.reduceEqDiff]
      unfold upd
      (repeat' split) <;> first | with_reducible exact by0_b _ | with_reducible exact by8_b _ | with_reducible exact by16_b _ | with_reducible exact by24_b _ | with_reducible exact hb i
theorem ins_46 (a b : St) (h : Rel a b) (w : Int32) (ho : ush w (26 : Int32) = 46) : Per (f_S_perform_b30 w (bg a)) (rd b w) := by
  have hR := rel_bg a b w h
  have hb : ∀ i, isb (b 1 i) := h.2.2.2.2.2.2
  have r1 := rd_j b w 1 (by decide)
  have hadt : trb (rd b w) = adt (sv b w + ((w <<< ((16 : Int32) &&& 31)) >>> ((16 : Int32) &&& 31))) (1 : Int32) ((sv b w + ((w <<< ((16 : Int32) &&& 31)) >>> ((16 : Int32) &&& 31))) &&& (-4 : Int32)) (4 : Int32) (5 : Int32) (rd b w) := by
    simp (decide := true) only [trb, f_D_isKnown, f_D_isKnown_b182, f_D_isKnown_b199, f_D_isKnown_b232, f_D_isKnown_b250, f_D_isKnown_b268, f_D_trouble_b24, f_D_addressTrouble, f_D_addressTrouble_b25, f_D_addressTrouble_b45, f_D_addressTrouble_b65, f_D_addressTrouble_b80, f_D_isPart, f_D_moved, f_D_number, zb_0, zb_1, rd_17, rd_18, rd_19, rd_21, ho, bnd, if_true, if_false]
    rfl
  rcases (e_data (bg a) (rd b w) hR (sv b w + ((w <<< ((16 : Int32) &&& 31)) >>> ((16 : Int32) &&& 31))) (1 : Int32) ((sv b w + ((w <<< ((16 : Int32) &&& 31)) >>> ((16 : Int32) &&& 31))) &&& (-4 : Int32)) (4 : Int32) (5 : Int32) ⟨sm5, by decide, by decide, by decide, by decide⟩ (hmp _)).symm with ⟨r, a', b', hr, f1, f2, f3⟩ | ⟨f1, f2, f3, f4⟩
  · left
    refine ⟨r, a', b', hr, ?_, by rw [hadt]; exact f2, f3⟩
    have hr1 := hr.2.2.1
    simp (decide := true) only [f_S_perform_b30, f_S_orderOf, ho, f_S_perform_b272, f_S_performLoad, f_S_perform_b278, f_S_performStore, f_S_addressOf, vS a b h w, vT a b h w, nI_num, nT_eq, f_S_loadUnit, f_S_storeUnit, f_S_giveLate, f_S_give, f_M_replaceWord, bnd, bnv, if_true, if_false, f1, hr1]
  right
  have hpl := pl_eq (sv b w + ((w <<< ((16 : Int32) &&& 31)) >>> ((16 : Int32) &&& 31)))
  obtain ⟨k, hk, hx, hk2⟩ := at4 (sv b w + ((w <<< ((16 : Int32) &&& 31)) >>> ((16 : Int32) &&& 31)))
  have hz := hadt.trans f2
  generalize hp : uX (sv b w + ((w <<< ((16 : Int32) &&& 31)) >>> ((16 : Int32) &&& 31))) % 536870912 = p at *
  obtain ⟨j, hj, hpj⟩ : ∃ j, j < 1024 ∧ p = 4 * j + k := ⟨p / 4, by omega, by omega⟩
  have hd : k = 0 ∨ k = 1 ∨ k = 2 ∨ k = 3 := by omega
  subst hpj
  rcases hd with rfl | rfl | rfl | rfl
  · refine ⟨_, _, ?_, hz, ?_, fin_st a b h w (by rw [ho]; rfl) j (w4b (by0 (tv b w)) (b 1 (4 * j + 1)) (b 1 (4 * j + 2)) (b 1 (4 * j + 3))) (sU (rd b w) 1 (4 * j) (by0 (tv b w))) ?_ ?_ ?_ ?_ ?_⟩
    · simp (decide := true) only [f_S_perform_b30, f_S_orderOf, ho, f_S_perform_b272, f_S_performLoad, f_S_perform_b278, f_S_performStore, f_S_addressOf, vS a b h w, vT a b h w, nI_num, nT_eq, f_S_loadUnit, f_S_storeUnit, f_S_giveLate, f_S_give, f_M_replaceWord, bnd, bnv, if_true, if_false, f1, hpl, word_j (bg a) (rd b w) hR j 0 hj (by omega), idx_j j 0 hj (by omega), r1, js_46_0 (b 1) hb _ _ _ hx]
    · have hs := st_1 (4 * j) (tv b w) (rd b w) (by omega)
      have hl := ld_4 (rd b w) (4 * j) (by omega)
      have r2 := rd_j b w 2 (by decide)
      have e1 : nI (4 * j + 0) &&& (-4 : Int32) = nI (4 * j) := by rw [n4, show 4 * ((4 * j + 0) / 4) = 4 * j by omega]
      have e2 : nI 0 + (1 : Int32) = (1 : Int32) := by decide
      have e3 : True := trivial
      have e4 : True := trivial
      by_cases hw : b 0 13 = qT w
      · simp (decide := true) only [f_D_act, f_D_memory, f_D_part, f_D_part_b45, f_D_part_b73, f_D_part_b88, f_D_isPart, f_D_moved, f_D_number, zb_0, zb_1, rd_17, rd_18, rd_19, rd_20, rd_21, ho, obv, if_true, if_false, hpl, hx, e1, e2, e3, e4, hl, hs, r1, r2, rd_lo b w 13 (by decide), rd_lo b w 14 (by decide), inb_q, hw]
      · simp (decide := true) only [f_D_act, f_D_memory, f_D_part, f_D_part_b45, f_D_part_b73, f_D_part_b88, f_D_isPart, f_D_moved, f_D_number, zb_0, zb_1, rd_17, rd_18, rd_19, rd_20, rd_21, ho, obv, if_true, if_false, hpl, hx, e1, e2, e3, e4, hl, hs, r1, r2, rd_lo b w 13 (by decide), rd_lo b w 14 (by decide), inb_q, hw]
    · rw [sU_fn, if_neg (by decide)]; try rfl
    · rw [sU_fn, if_neg (by decide)]; try rfl
    · rw [w4_b]
      simp only [sU_fn, r1, reduceIte, Nat.reduceEqDiff]
      simp [upd] <;> (repeat rw [if_neg (by omega)])
    · intro i hi
      simp only [sU_fn, r1, reduceIte, Nat.reduceEqDiff]
      unfold upd
      rw [if_neg (by omega)]
    · intro i
      simp only [sU_fn, r1, reduceIte, Nat.reduceEqDiff]
      unfold upd
      (repeat' split) <;> first | with_reducible exact by0_b _ | with_reducible exact by8_b _ | with_reducible exact by16_b _ | with_reducible exact by24_b _ | with_reducible exact hb i
  · refine ⟨_, _, ?_, hz, ?_, fin_st a b h w (by rw [ho]; rfl) j (w4b (by8 (tv b w)) (by0 (tv b w)) (b 1 (4 * j + 2)) (b 1 (4 * j + 3))) (sU (sU (rd b w) 1 (4 * j) (by8 (tv b w))) 1 (4 * j + 1) (by0 (tv b w))) ?_ ?_ ?_ ?_ ?_⟩
    · simp (decide := true) only [f_S_perform_b30, f_S_orderOf, ho, f_S_perform_b272, f_S_performLoad, f_S_perform_b278, f_S_performStore, f_S_addressOf, vS a b h w, vT a b h w, nI_num, nT_eq, f_S_loadUnit, f_S_storeUnit, f_S_giveLate, f_S_give, f_M_replaceWord, bnd, bnv, if_true, if_false, f1, hpl, word_j (bg a) (rd b w) hR j 1 hj (by omega), idx_j j 1 hj (by omega), r1, js_46_1 (b 1) hb _ _ _ hx]
    · have hs := st_2 (4 * j) (tv b w) (rd b w) (by omega)
      have hl := ld_4 (rd b w) (4 * j) (by omega)
      have r2 := rd_j b w 2 (by decide)
      have e1 : nI (4 * j + 1) &&& (-4 : Int32) = nI (4 * j) := by rw [n4, show 4 * ((4 * j + 1) / 4) = 4 * j by omega]
      have e2 : nI 1 + (1 : Int32) = (2 : Int32) := by decide
      have e3 : True := trivial
      have e4 : True := trivial
      by_cases hw : b 0 13 = qT w
      · simp (decide := true) only [f_D_act, f_D_memory, f_D_part, f_D_part_b45, f_D_part_b73, f_D_part_b88, f_D_isPart, f_D_moved, f_D_number, zb_0, zb_1, rd_17, rd_18, rd_19, rd_20, rd_21, ho, obv, if_true, if_false, hpl, hx, e1, e2, e3, e4, hl, hs, r1, r2, rd_lo b w 13 (by decide), rd_lo b w 14 (by decide), inb_q, hw]
      · simp (decide := true) only [f_D_act, f_D_memory, f_D_part, f_D_part_b45, f_D_part_b73, f_D_part_b88, f_D_isPart, f_D_moved, f_D_number, zb_0, zb_1, rd_17, rd_18, rd_19, rd_20, rd_21, ho, obv, if_true, if_false, hpl, hx, e1, e2, e3, e4, hl, hs, r1, r2, rd_lo b w 13 (by decide), rd_lo b w 14 (by decide), inb_q, hw]
    · rw [sU_fn, if_neg (by decide), sU_fn, if_neg (by decide)]; try rfl
    · rw [sU_fn, if_neg (by decide), sU_fn, if_neg (by decide)]; try rfl
    · rw [w4_b]
      simp only [sU_fn, r1, reduceIte, Nat.reduceEqDiff]
      simp [upd] <;> (repeat rw [if_neg (by omega)])
    · intro i hi
      simp only [sU_fn, r1, reduceIte, Nat.reduceEqDiff]
      unfold upd
      rw [if_neg (by omega)]
      rw [if_neg (by omega)]
    · intro i
      simp only [sU_fn, r1, reduceIte, Nat.reduceEqDiff]
      unfold upd
      (repeat' split) <;> first | with_reducible exact by0_b _ | with_reducible exact by8_b _ | with_reducible exact by16_b _ | with_reducible exact by24_b _ | with_reducible exact hb i
  · refine ⟨_, _, ?_, hz, ?_, fin_st a b h w (by rw [ho]; rfl) j (w4b (by16 (tv b w)) (by8 (tv b w)) (by0 (tv b w)) (b 1 (4 * j + 3))) (sU (sU (sU (rd b w) 1 (4 * j) (by16 (tv b w))) 1 (4 * j + 1) (by8 (tv b w))) 1 (4 * j + 2) (by0 (tv b w))) ?_ ?_ ?_ ?_ ?_⟩
    · simp (decide := true) only [f_S_perform_b30, f_S_orderOf, ho, f_S_perform_b272, f_S_performLoad, f_S_perform_b278, f_S_performStore, f_S_addressOf, vS a b h w, vT a b h w, nI_num, nT_eq, f_S_loadUnit, f_S_storeUnit, f_S_giveLate, f_S_give, f_M_replaceWord, bnd, bnv, if_true, if_false, f1, hpl, word_j (bg a) (rd b w) hR j 2 hj (by omega), idx_j j 2 hj (by omega), r1, js_46_2 (b 1) hb _ _ _ hx]
    · have hs := st_3 (4 * j) (tv b w) (rd b w) (by omega)
      have hl := ld_4 (rd b w) (4 * j) (by omega)
      have r2 := rd_j b w 2 (by decide)
      have e1 : nI (4 * j + 2) &&& (-4 : Int32) = nI (4 * j) := by rw [n4, show 4 * ((4 * j + 2) / 4) = 4 * j by omega]
      have e2 : nI 2 + (1 : Int32) = (3 : Int32) := by decide
      have e3 : True := trivial
      have e4 : True := trivial
      by_cases hw : b 0 13 = qT w
      · simp (decide := true) only [f_D_act, f_D_memory, f_D_part, f_D_part_b45, f_D_part_b73, f_D_part_b88, f_D_isPart, f_D_moved, f_D_number, zb_0, zb_1, rd_17, rd_18, rd_19, rd_20, rd_21, ho, obv, if_true, if_false, hpl, hx, e1, e2, e3, e4, hl, hs, r1, r2, rd_lo b w 13 (by decide), rd_lo b w 14 (by decide), inb_q, hw]
      · simp (decide := true) only [f_D_act, f_D_memory, f_D_part, f_D_part_b45, f_D_part_b73, f_D_part_b88, f_D_isPart, f_D_moved, f_D_number, zb_0, zb_1, rd_17, rd_18, rd_19, rd_20, rd_21, ho, obv, if_true, if_false, hpl, hx, e1, e2, e3, e4, hl, hs, r1, r2, rd_lo b w 13 (by decide), rd_lo b w 14 (by decide), inb_q, hw]
    · rw [sU_fn, if_neg (by decide), sU_fn, if_neg (by decide), sU_fn, if_neg (by decide)]; try rfl
    · rw [sU_fn, if_neg (by decide), sU_fn, if_neg (by decide), sU_fn, if_neg (by decide)]; try rfl
    · rw [w4_b]
      simp only [sU_fn, r1, reduceIte, Nat.reduceEqDiff]
      simp [upd] <;> (repeat rw [if_neg (by omega)])
    · intro i hi
      simp only [sU_fn, r1, reduceIte, Nat.reduceEqDiff]
      unfold upd
      rw [if_neg (by omega)]
      rw [if_neg (by omega)]
      rw [if_neg (by omega)]
    · intro i
      simp only [sU_fn, r1, reduceIte, Nat.reduceEqDiff]
      unfold upd
      (repeat' split) <;> first | with_reducible exact by0_b _ | with_reducible exact by8_b _ | with_reducible exact by16_b _ | with_reducible exact by24_b _ | with_reducible exact hb i
  · refine ⟨_, _, ?_, hz, ?_, fin_st a b h w (by rw [ho]; rfl) j (w4b (by24 (tv b w)) (by16 (tv b w)) (by8 (tv b w)) (by0 (tv b w))) (sU (sU (sU (sU (rd b w) 1 (4 * j) (by24 (tv b w))) 1 (4 * j + 1) (by16 (tv b w))) 1 (4 * j + 2) (by8 (tv b w))) 1 (4 * j + 3) (by0 (tv b w))) ?_ ?_ ?_ ?_ ?_⟩
    · simp (decide := true) only [f_S_perform_b30, f_S_orderOf, ho, f_S_perform_b272, f_S_performLoad, f_S_perform_b278, f_S_performStore, f_S_addressOf, vS a b h w, vT a b h w, nI_num, nT_eq, f_S_loadUnit, f_S_storeUnit, f_S_giveLate, f_S_give, f_M_replaceWord, bnd, bnv, if_true, if_false, f1, hpl, word_j (bg a) (rd b w) hR j 3 hj (by omega), idx_j j 3 hj (by omega), r1, js_46_3 (b 1) hb _ _ _ hx]
    · have hs := st_4 (4 * j) (tv b w) (rd b w) (by omega)
      have hl := ld_4 (rd b w) (4 * j) (by omega)
      have r2 := rd_j b w 2 (by decide)
      have e1 : nI (4 * j + 3) &&& (-4 : Int32) = nI (4 * j) := by rw [n4, show 4 * ((4 * j + 3) / 4) = 4 * j by omega]
      have e2 : nI 3 + (1 : Int32) = (4 : Int32) := by decide
      have e3 : True := trivial
      have e4 : True := trivial
      by_cases hw : b 0 13 = qT w
      · simp (decide := true) only [f_D_act, f_D_memory, f_D_part, f_D_part_b45, f_D_part_b73, f_D_part_b88, f_D_isPart, f_D_moved, f_D_number, zb_0, zb_1, rd_17, rd_18, rd_19, rd_20, rd_21, ho, obv, if_true, if_false, hpl, hx, e1, e2, e3, e4, hl, hs, r1, r2, rd_lo b w 13 (by decide), rd_lo b w 14 (by decide), inb_q, hw]
      · simp (decide := true) only [f_D_act, f_D_memory, f_D_part, f_D_part_b45, f_D_part_b73, f_D_part_b88, f_D_isPart, f_D_moved, f_D_number, zb_0, zb_1, rd_17, rd_18, rd_19, rd_20, rd_21, ho, obv, if_true, if_false, hpl, hx, e1, e2, e3, e4, hl, hs, r1, r2, rd_lo b w 13 (by decide), rd_lo b w 14 (by decide), inb_q, hw]
    · rw [sU_fn, if_neg (by decide), sU_fn, if_neg (by decide), sU_fn, if_neg (by decide), sU_fn, if_neg (by decide)]; try rfl
    · rw [sU_fn, if_neg (by decide), sU_fn, if_neg (by decide), sU_fn, if_neg (by decide), sU_fn, if_neg (by decide)]; try rfl
    · rw [w4_b]
      simp only [sU_fn, r1, reduceIte, Nat.reduceEqDiff]
      simp [upd] <;> (repeat rw [if_neg (by omega)])
    · intro i hi
      simp only [sU_fn, r1, reduceIte, Nat.reduceEqDiff]
      unfold upd
      rw [if_neg (by omega)]
      rw [if_neg (by omega)]
      rw [if_neg (by omega)]
      rw [if_neg (by omega)]
    · intro i
      simp only [sU_fn, r1, reduceIte, Nat.reduceEqDiff]
      unfold upd
      (repeat' split) <;> first | with_reducible exact by0_b _ | with_reducible exact by8_b _ | with_reducible exact by16_b _ | with_reducible exact by24_b _ | with_reducible exact hb i
