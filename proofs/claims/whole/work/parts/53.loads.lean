theorem at4 (x : Int32) : ∃ k, k < 4 ∧ x &&& (3 : Int32) = nI k ∧ k = uX x % 536870912 % 4 := ⟨uX x % 4, by omega, and3 x, by omega⟩
theorem inb_q (x : Int32) : inb (x &&& (31 : Int32)) 34 = true := by
  obtain ⟨j, hj, e⟩ := and31_nI x
  rw [e]
  exact inb_nI (by omega) (by omega)
theorem jl_32 (f : Nat → Int32) (hb : ∀ i, isb (f i)) (x o : Int32) (q k : Nat) (hk : k < 4) (hx : x &&& (3 : Int32) = nI k) : f_S_joinLoaded (32 : Int32) o (w4 f q) x = ((jn 0 (f (q + k))) <<< ((24 : Int32) &&& 31)) >>> ((24 : Int32) &&& 31) := by
  have hd : k = 0 ∨ k = 1 ∨ k = 2 ∨ k = 3 := by omega
  rcases hd with rfl | rfl | rfl | rfl
  · have e : f_S_toLowest x (1 : Int32) = (24 : Int32) := by
      unfold f_S_toLowest
      rw [hx]
      decide
    simp (decide := true) only [f_S_joinLoaded, e, if_true, if_false]
    exact lb_of _ _ (by rw [w4_b, lbu_0 (hb _) (hb _) (hb _) (hb _), jn1_and (hb _)]; try rfl)
  · have e : f_S_toLowest x (1 : Int32) = (16 : Int32) := by
      unfold f_S_toLowest
      rw [hx]
      decide
    simp (decide := true) only [f_S_joinLoaded, e, if_true, if_false]
    exact lb_of _ _ (by rw [w4_b, lbu_1 (hb _) (hb _) (hb _) (hb _), jn1_and (hb _)]; try rfl)
  · have e : f_S_toLowest x (1 : Int32) = (8 : Int32) := by
      unfold f_S_toLowest
      rw [hx]
      decide
    simp (decide := true) only [f_S_joinLoaded, e, if_true, if_false]
    exact lb_of _ _ (by rw [w4_b, lbu_2 (hb _) (hb _) (hb _) (hb _), jn1_and (hb _)]; try rfl)
  · have e : f_S_toLowest x (1 : Int32) = (0 : Int32) := by
      unfold f_S_toLowest
      rw [hx]
      decide
    simp (decide := true) only [f_S_joinLoaded, e, if_true, if_false]
    exact lb_of _ _ (by rw [w4_b, lbu_3 (hb _) (hb _) (hb _) (hb _), jn1_and (hb _)]; try rfl)
theorem jl_36 (f : Nat → Int32) (hb : ∀ i, isb (f i)) (x o : Int32) (q k : Nat) (hk : k < 4) (hx : x &&& (3 : Int32) = nI k) : f_S_joinLoaded (36 : Int32) o (w4 f q) x = jn 0 (f (q + k)) := by
  have hd : k = 0 ∨ k = 1 ∨ k = 2 ∨ k = 3 := by omega
  rcases hd with rfl | rfl | rfl | rfl
  · have e : f_S_toLowest x (1 : Int32) = (24 : Int32) := by
      unfold f_S_toLowest
      rw [hx]
      decide
    simp (decide := true) only [f_S_joinLoaded, e, if_true, if_false]
    rw [w4_b, lbu_0 (hb _) (hb _) (hb _) (hb _)]; try rfl
  · have e : f_S_toLowest x (1 : Int32) = (16 : Int32) := by
      unfold f_S_toLowest
      rw [hx]
      decide
    simp (decide := true) only [f_S_joinLoaded, e, if_true, if_false]
    rw [w4_b, lbu_1 (hb _) (hb _) (hb _) (hb _)]; try rfl
  · have e : f_S_toLowest x (1 : Int32) = (8 : Int32) := by
      unfold f_S_toLowest
      rw [hx]
      decide
    simp (decide := true) only [f_S_joinLoaded, e, if_true, if_false]
    rw [w4_b, lbu_2 (hb _) (hb _) (hb _) (hb _)]; try rfl
  · have e : f_S_toLowest x (1 : Int32) = (0 : Int32) := by
      unfold f_S_toLowest
      rw [hx]
      decide
    simp (decide := true) only [f_S_joinLoaded, e, if_true, if_false]
    rw [w4_b, lbu_3 (hb _) (hb _) (hb _) (hb _)]; try rfl
theorem jl_33 (f : Nat → Int32) (hb : ∀ i, isb (f i)) (x o : Int32) (q k : Nat) (hk : k < 4) (h2 : k % 2 = 0) (hx : x &&& (3 : Int32) = nI k) : f_S_joinLoaded (33 : Int32) o (w4 f q) x = ((jn (jn 0 (f (q + k))) (f (q + k + 1))) <<< ((16 : Int32) &&& 31)) >>> ((16 : Int32) &&& 31) := by
  have hd : k = 0 ∨ k = 2 := by omega
  rcases hd with rfl | rfl
  · have e : f_S_toLowest x (2 : Int32) = (16 : Int32) := by
      unfold f_S_toLowest
      rw [hx]
      decide
    simp (decide := true) only [f_S_joinLoaded, e, if_true, if_false]
    exact lh_of _ _ (by rw [w4_b, lhu_0 (hb _) (hb _) (hb _) (hb _), jn2_and (hb _) (hb _)]; try rfl)
  · have e : f_S_toLowest x (2 : Int32) = (0 : Int32) := by
      unfold f_S_toLowest
      rw [hx]
      decide
    simp (decide := true) only [f_S_joinLoaded, e, if_true, if_false]
    exact lh_of _ _ (by rw [w4_b, lhu_2 (hb _) (hb _) (hb _) (hb _), jn2_and (hb _) (hb _)]; try rfl)
theorem jl_37 (f : Nat → Int32) (hb : ∀ i, isb (f i)) (x o : Int32) (q k : Nat) (hk : k < 4) (h2 : k % 2 = 0) (hx : x &&& (3 : Int32) = nI k) : f_S_joinLoaded (37 : Int32) o (w4 f q) x = jn (jn 0 (f (q + k))) (f (q + k + 1)) := by
  have hd : k = 0 ∨ k = 2 := by omega
  rcases hd with rfl | rfl
  · have e : f_S_toLowest x (2 : Int32) = (16 : Int32) := by
      unfold f_S_toLowest
      rw [hx]
      decide
    simp (decide := true) only [f_S_joinLoaded, e, if_true, if_false]
    rw [w4_b, lhu_0 (hb _) (hb _) (hb _) (hb _)]; try rfl
  · have e : f_S_toLowest x (2 : Int32) = (0 : Int32) := by
      unfold f_S_toLowest
      rw [hx]
      decide
    simp (decide := true) only [f_S_joinLoaded, e, if_true, if_false]
    rw [w4_b, lhu_2 (hb _) (hb _) (hb _) (hb _)]; try rfl
theorem jl_35 (v x o : Int32) : f_S_joinLoaded (35 : Int32) o v x = v := by
  simp (decide := true) only [f_S_joinLoaded, if_true, if_false]
theorem jl_34 (x o v : Int32) (k : Nat) (hk : k < 4) (hx : x &&& (3 : Int32) = nI k) : f_S_joinLoaded (34 : Int32) o v x = if (8 : Int32) * (x &&& (3 : Int32)) = (0 : Int32) then v else (v <<< (((8 : Int32) * (x &&& (3 : Int32))) &&& 31)) ||| (o &&& (((1 : Int32) <<< (((8 : Int32) * (x &&& (3 : Int32))) &&& 31)) - (1 : Int32))) := by
  have hd : k = 0 ∨ k = 1 ∨ k = 2 ∨ k = 3 := by omega
  rcases hd with rfl | rfl | rfl | rfl
  · have e : f_S_bitsAhead x = (0 : Int32) := by
      unfold f_S_bitsAhead
      rw [hx]
      decide
    have e2 : (8 : Int32) * (x &&& (3 : Int32)) = (0 : Int32) := by
      rw [hx]
      decide
    simp (decide := true) only [f_S_joinLoaded, e, e2, if_true, if_false]
    exact xl_0 _ _
  · have e : f_S_bitsAhead x = (8 : Int32) := by
      unfold f_S_bitsAhead
      rw [hx]
      decide
    have e2 : (8 : Int32) * (x &&& (3 : Int32)) = (8 : Int32) := by
      rw [hx]
      decide
    simp (decide := true) only [f_S_joinLoaded, e, e2, if_true, if_false]
    exact xl_8 _ _
  · have e : f_S_bitsAhead x = (16 : Int32) := by
      unfold f_S_bitsAhead
      rw [hx]
      decide
    have e2 : (8 : Int32) * (x &&& (3 : Int32)) = (16 : Int32) := by
      rw [hx]
      decide
    simp (decide := true) only [f_S_joinLoaded, e, e2, if_true, if_false]
    exact xl_16 _ _
  · have e : f_S_bitsAhead x = (24 : Int32) := by
      unfold f_S_bitsAhead
      rw [hx]
      decide
    have e2 : (8 : Int32) * (x &&& (3 : Int32)) = (24 : Int32) := by
      rw [hx]
      decide
    simp (decide := true) only [f_S_joinLoaded, e, e2, if_true, if_false]
    exact xl_24 _ _
theorem jl_38 (x o v : Int32) (k : Nat) (hk : k < 4) (hx : x &&& (3 : Int32) = nI k) : f_S_joinLoaded (38 : Int32) o v x = if (8 : Int32) * ((3 : Int32) - (x &&& (3 : Int32))) = (0 : Int32) then v else (ush v ((8 : Int32) * ((3 : Int32) - (x &&& (3 : Int32))))) ||| (o &&& ((-1 : Int32) <<< (((32 : Int32) - ((8 : Int32) * ((3 : Int32) - (x &&& (3 : Int32))))) &&& 31))) := by
  have hd : k = 0 ∨ k = 1 ∨ k = 2 ∨ k = 3 := by omega
  rcases hd with rfl | rfl | rfl | rfl
  · have e : f_S_toLowest x (1 : Int32) = (24 : Int32) := by
      unfold f_S_toLowest
      rw [hx]
      decide
    have e2 : (8 : Int32) * ((3 : Int32) - (x &&& (3 : Int32))) = (24 : Int32) := by
      rw [hx]
      decide
    simp (decide := true) only [f_S_joinLoaded, e, e2, if_true, if_false]
    exact xr_24 _ _
  · have e : f_S_toLowest x (1 : Int32) = (16 : Int32) := by
      unfold f_S_toLowest
      rw [hx]
      decide
    have e2 : (8 : Int32) * ((3 : Int32) - (x &&& (3 : Int32))) = (16 : Int32) := by
      rw [hx]
      decide
    simp (decide := true) only [f_S_joinLoaded, e, e2, if_true, if_false]
    exact xr_16 _ _
  · have e : f_S_toLowest x (1 : Int32) = (8 : Int32) := by
      unfold f_S_toLowest
      rw [hx]
      decide
    have e2 : (8 : Int32) * ((3 : Int32) - (x &&& (3 : Int32))) = (8 : Int32) := by
      rw [hx]
      decide
    simp (decide := true) only [f_S_joinLoaded, e, e2, if_true, if_false]
    exact xr_8 _ _
  · have e : f_S_toLowest x (1 : Int32) = (0 : Int32) := by
      unfold f_S_toLowest
      rw [hx]
      decide
    have e2 : (8 : Int32) * ((3 : Int32) - (x &&& (3 : Int32))) = (0 : Int32) := by
      rw [hx]
      decide
    simp (decide := true) only [f_S_joinLoaded, e, e2, if_true, if_false]
    exact xr_0 _ _
theorem ins_32 (a b : St) (h : Rel a b) (w : Int32) (ho : ush w (26 : Int32) = 32) : Per (f_S_perform_b30 w (bg a)) (rd b w) := by
  have hR := rel_bg a b w h
  have hb : ∀ i, isb (b 1 i) := h.2.2.2.2.2.2
  have r1 := rd_j b w 1 (by decide)
  have hadt : trb (rd b w) = adt (sv b w + ((w <<< ((16 : Int32) &&& 31)) >>> ((16 : Int32) &&& 31))) (1 : Int32) (sv b w + ((w <<< ((16 : Int32) &&& 31)) >>> ((16 : Int32) &&& 31))) (1 : Int32) (4 : Int32) (rd b w) := by
    simp (decide := true) only [trb, f_D_isKnown, f_D_isKnown_b182, f_D_isKnown_b199, f_D_isKnown_b232, f_D_isKnown_b250, f_D_isKnown_b268, f_D_trouble_b24, f_D_addressTrouble, f_D_addressTrouble_b25, f_D_addressTrouble_b45, f_D_addressTrouble_b65, f_D_addressTrouble_b80, f_D_isPart, f_D_moved, f_D_number, zb_0, zb_1, rd_17, rd_18, rd_19, rd_21, ho, bnd, if_true, if_false]
    rfl
  rcases (e_data (bg a) (rd b w) hR (sv b w + ((w <<< ((16 : Int32) &&& 31)) >>> ((16 : Int32) &&& 31))) (1 : Int32) (sv b w + ((w <<< ((16 : Int32) &&& 31)) >>> ((16 : Int32) &&& 31))) (1 : Int32) (4 : Int32) ⟨sm4, by decide, by decide, by decide, by decide⟩ (hm1 _)).symm with ⟨r, a', b', hr, f1, f2, f3⟩ | ⟨f1, f2, f3, f4⟩
  · left
    refine ⟨r, a', b', hr, ?_, by rw [hadt]; exact f2, f3⟩
    have hr1 := hr.2.2.1
    simp (decide := true) only [f_S_perform_b30, f_S_orderOf, ho, f_S_perform_b272, f_S_performLoad, f_S_perform_b278, f_S_performStore, f_S_addressOf, vS a b h w, vT a b h w, nI_num, nT_eq, f_S_loadUnit, f_S_storeUnit, f_S_giveLate, f_S_give, f_M_replaceWord, bnd, bnv, if_true, if_false, f1, hr1]
  right
  have hpl := pl_eq (sv b w + ((w <<< ((16 : Int32) &&& 31)) >>> ((16 : Int32) &&& 31)))
  obtain ⟨k, hk, hx, hk2⟩ := at4 (sv b w + ((w <<< ((16 : Int32) &&& 31)) >>> ((16 : Int32) &&& 31)))
  have hz := hadt.trans f2
  generalize hp : uX (sv b w + ((w <<< ((16 : Int32) &&& 31)) >>> ((16 : Int32) &&& 31))) % 536870912 = p at *
  have hq : p = 4 * (p / 4) + k := by omega
  refine ⟨_, _, ?_, hz, ?_, fin_late a b h w (qT w) (((jn 0 (b 1 p)) <<< ((24 : Int32) &&& 31)) >>> ((24 : Int32) &&& 31)) (and31_lt _) (by rw [ho]; rfl)⟩
  · simp (decide := true) only [f_S_perform_b30, f_S_orderOf, ho, f_S_perform_b272, f_S_performLoad, f_S_perform_b278, f_S_performStore, f_S_addressOf, vS a b h w, vT a b h w, nI_num, nT_eq, f_S_loadUnit, f_S_storeUnit, f_S_giveLate, f_S_give, f_M_replaceWord, bnd, bnv, if_true, if_false, f1, hpl, word_any (bg a) (rd b w) hR p f4, r1, jl_32 (b 1) hb _ _ _ k hk hx, ← hq]
  · have hl := ld_1 (rd b w) p (by omega)
    simp (decide := true) only [f_D_act, f_D_memory, f_D_part, f_D_part_b45, f_D_part_b73, f_D_part_b88, f_D_isPart, f_D_moved, f_D_number, zb_0, zb_1, rd_17, rd_18, rd_19, rd_20, rd_21, ho, obv, if_true, if_false, hpl, hl, r1]
theorem ins_36 (a b : St) (h : Rel a b) (w : Int32) (ho : ush w (26 : Int32) = 36) : Per (f_S_perform_b30 w (bg a)) (rd b w) := by
  have hR := rel_bg a b w h
  have hb : ∀ i, isb (b 1 i) := h.2.2.2.2.2.2
  have r1 := rd_j b w 1 (by decide)
  have hadt : trb (rd b w) = adt (sv b w + ((w <<< ((16 : Int32) &&& 31)) >>> ((16 : Int32) &&& 31))) (1 : Int32) (sv b w + ((w <<< ((16 : Int32) &&& 31)) >>> ((16 : Int32) &&& 31))) (1 : Int32) (4 : Int32) (rd b w) := by
    simp (decide := true) only [trb, f_D_isKnown, f_D_isKnown_b182, f_D_isKnown_b199, f_D_isKnown_b232, f_D_isKnown_b250, f_D_isKnown_b268, f_D_trouble_b24, f_D_addressTrouble, f_D_addressTrouble_b25, f_D_addressTrouble_b45, f_D_addressTrouble_b65, f_D_addressTrouble_b80, f_D_isPart, f_D_moved, f_D_number, zb_0, zb_1, rd_17, rd_18, rd_19, rd_21, ho, bnd, if_true, if_false]
    rfl
  rcases (e_data (bg a) (rd b w) hR (sv b w + ((w <<< ((16 : Int32) &&& 31)) >>> ((16 : Int32) &&& 31))) (1 : Int32) (sv b w + ((w <<< ((16 : Int32) &&& 31)) >>> ((16 : Int32) &&& 31))) (1 : Int32) (4 : Int32) ⟨sm4, by decide, by decide, by decide, by decide⟩ (hm1 _)).symm with ⟨r, a', b', hr, f1, f2, f3⟩ | ⟨f1, f2, f3, f4⟩
  · left
    refine ⟨r, a', b', hr, ?_, by rw [hadt]; exact f2, f3⟩
    have hr1 := hr.2.2.1
    simp (decide := true) only [f_S_perform_b30, f_S_orderOf, ho, f_S_perform_b272, f_S_performLoad, f_S_perform_b278, f_S_performStore, f_S_addressOf, vS a b h w, vT a b h w, nI_num, nT_eq, f_S_loadUnit, f_S_storeUnit, f_S_giveLate, f_S_give, f_M_replaceWord, bnd, bnv, if_true, if_false, f1, hr1]
  right
  have hpl := pl_eq (sv b w + ((w <<< ((16 : Int32) &&& 31)) >>> ((16 : Int32) &&& 31)))
  obtain ⟨k, hk, hx, hk2⟩ := at4 (sv b w + ((w <<< ((16 : Int32) &&& 31)) >>> ((16 : Int32) &&& 31)))
  have hz := hadt.trans f2
  generalize hp : uX (sv b w + ((w <<< ((16 : Int32) &&& 31)) >>> ((16 : Int32) &&& 31))) % 536870912 = p at *
  have hq : p = 4 * (p / 4) + k := by omega
  refine ⟨_, _, ?_, hz, ?_, fin_late a b h w (qT w) (jn 0 (b 1 p)) (and31_lt _) (by rw [ho]; rfl)⟩
  · simp (decide := true) only [f_S_perform_b30, f_S_orderOf, ho, f_S_perform_b272, f_S_performLoad, f_S_perform_b278, f_S_performStore, f_S_addressOf, vS a b h w, vT a b h w, nI_num, nT_eq, f_S_loadUnit, f_S_storeUnit, f_S_giveLate, f_S_give, f_M_replaceWord, bnd, bnv, if_true, if_false, f1, hpl, word_any (bg a) (rd b w) hR p f4, r1, jl_36 (b 1) hb _ _ _ k hk hx, ← hq]
  · have hl := ld_1 (rd b w) p (by omega)
    simp (decide := true) only [f_D_act, f_D_memory, f_D_part, f_D_part_b45, f_D_part_b73, f_D_part_b88, f_D_isPart, f_D_moved, f_D_number, zb_0, zb_1, rd_17, rd_18, rd_19, rd_20, rd_21, ho, obv, if_true, if_false, hpl, hl, r1]
theorem ins_33 (a b : St) (h : Rel a b) (w : Int32) (ho : ush w (26 : Int32) = 33) : Per (f_S_perform_b30 w (bg a)) (rd b w) := by
  have hR := rel_bg a b w h
  have hb : ∀ i, isb (b 1 i) := h.2.2.2.2.2.2
  have r1 := rd_j b w 1 (by decide)
  have hadt : trb (rd b w) = adt (sv b w + ((w <<< ((16 : Int32) &&& 31)) >>> ((16 : Int32) &&& 31))) (2 : Int32) (sv b w + ((w <<< ((16 : Int32) &&& 31)) >>> ((16 : Int32) &&& 31))) (2 : Int32) (4 : Int32) (rd b w) := by
    simp (decide := true) only [trb, f_D_isKnown, f_D_isKnown_b182, f_D_isKnown_b199, f_D_isKnown_b232, f_D_isKnown_b250, f_D_isKnown_b268, f_D_trouble_b24, f_D_addressTrouble, f_D_addressTrouble_b25, f_D_addressTrouble_b45, f_D_addressTrouble_b65, f_D_addressTrouble_b80, f_D_isPart, f_D_moved, f_D_number, zb_0, zb_1, rd_17, rd_18, rd_19, rd_21, ho, bnd, if_true, if_false]
    rfl
  rcases (e_data (bg a) (rd b w) hR (sv b w + ((w <<< ((16 : Int32) &&& 31)) >>> ((16 : Int32) &&& 31))) (2 : Int32) (sv b w + ((w <<< ((16 : Int32) &&& 31)) >>> ((16 : Int32) &&& 31))) (2 : Int32) (4 : Int32) ⟨sm4, by decide, by decide, by decide, by decide⟩ (hm2 _)).symm with ⟨r, a', b', hr, f1, f2, f3⟩ | ⟨f1, f2, f3, f4⟩
  · left
    refine ⟨r, a', b', hr, ?_, by rw [hadt]; exact f2, f3⟩
    have hr1 := hr.2.2.1
    simp (decide := true) only [f_S_perform_b30, f_S_orderOf, ho, f_S_perform_b272, f_S_performLoad, f_S_perform_b278, f_S_performStore, f_S_addressOf, vS a b h w, vT a b h w, nI_num, nT_eq, f_S_loadUnit, f_S_storeUnit, f_S_giveLate, f_S_give, f_M_replaceWord, bnd, bnv, if_true, if_false, f1, hr1]
  right
  have hpl := pl_eq (sv b w + ((w <<< ((16 : Int32) &&& 31)) >>> ((16 : Int32) &&& 31)))
  obtain ⟨k, hk, hx, hk2⟩ := at4 (sv b w + ((w <<< ((16 : Int32) &&& 31)) >>> ((16 : Int32) &&& 31)))
  have hz := hadt.trans f2
  generalize hp : uX (sv b w + ((w <<< ((16 : Int32) &&& 31)) >>> ((16 : Int32) &&& 31))) % 536870912 = p at *
  have hev := (al2 _).mp f3
  have hk3 : k % 2 = 0 := by omega
  have hq : p = 4 * (p / 4) + k := by omega
  refine ⟨_, _, ?_, hz, ?_, fin_late a b h w (qT w) (((jn (jn 0 (b 1 p)) (b 1 (p + 1))) <<< ((16 : Int32) &&& 31)) >>> ((16 : Int32) &&& 31)) (and31_lt _) (by rw [ho]; rfl)⟩
  · simp (decide := true) only [f_S_perform_b30, f_S_orderOf, ho, f_S_perform_b272, f_S_performLoad, f_S_perform_b278, f_S_performStore, f_S_addressOf, vS a b h w, vT a b h w, nI_num, nT_eq, f_S_loadUnit, f_S_storeUnit, f_S_giveLate, f_S_give, f_M_replaceWord, bnd, bnv, if_true, if_false, f1, hpl, word_any (bg a) (rd b w) hR p f4, r1, jl_33 (b 1) hb _ _ _ k hk hk3 hx, ← hq]
  · have hl := ld_2 (rd b w) p (by omega)
    simp (decide := true) only [f_D_act, f_D_memory, f_D_part, f_D_part_b45, f_D_part_b73, f_D_part_b88, f_D_isPart, f_D_moved, f_D_number, zb_0, zb_1, rd_17, rd_18, rd_19, rd_20, rd_21, ho, obv, if_true, if_false, hpl, hl, r1]
theorem ins_37 (a b : St) (h : Rel a b) (w : Int32) (ho : ush w (26 : Int32) = 37) : Per (f_S_perform_b30 w (bg a)) (rd b w) := by
  have hR := rel_bg a b w h
  have hb : ∀ i, isb (b 1 i) := h.2.2.2.2.2.2
  have r1 := rd_j b w 1 (by decide)
  have hadt : trb (rd b w) = adt (sv b w + ((w <<< ((16 : Int32) &&& 31)) >>> ((16 : Int32) &&& 31))) (2 : Int32) (sv b w + ((w <<< ((16 : Int32) &&& 31)) >>> ((16 : Int32) &&& 31))) (2 : Int32) (4 : Int32) (rd b w) := by
    simp (decide := true) only [trb, f_D_isKnown, f_D_isKnown_b182, f_D_isKnown_b199, f_D_isKnown_b232, f_D_isKnown_b250, f_D_isKnown_b268, f_D_trouble_b24, f_D_addressTrouble, f_D_addressTrouble_b25, f_D_addressTrouble_b45, f_D_addressTrouble_b65, f_D_addressTrouble_b80, f_D_isPart, f_D_moved, f_D_number, zb_0, zb_1, rd_17, rd_18, rd_19, rd_21, ho, bnd, if_true, if_false]
    rfl
  rcases (e_data (bg a) (rd b w) hR (sv b w + ((w <<< ((16 : Int32) &&& 31)) >>> ((16 : Int32) &&& 31))) (2 : Int32) (sv b w + ((w <<< ((16 : Int32) &&& 31)) >>> ((16 : Int32) &&& 31))) (2 : Int32) (4 : Int32) ⟨sm4, by decide, by decide, by decide, by decide⟩ (hm2 _)).symm with ⟨r, a', b', hr, f1, f2, f3⟩ | ⟨f1, f2, f3, f4⟩
  · left
    refine ⟨r, a', b', hr, ?_, by rw [hadt]; exact f2, f3⟩
    have hr1 := hr.2.2.1
    simp (decide := true) only [f_S_perform_b30, f_S_orderOf, ho, f_S_perform_b272, f_S_performLoad, f_S_perform_b278, f_S_performStore, f_S_addressOf, vS a b h w, vT a b h w, nI_num, nT_eq, f_S_loadUnit, f_S_storeUnit, f_S_giveLate, f_S_give, f_M_replaceWord, bnd, bnv, if_true, if_false, f1, hr1]
  right
  have hpl := pl_eq (sv b w + ((w <<< ((16 : Int32) &&& 31)) >>> ((16 : Int32) &&& 31)))
  obtain ⟨k, hk, hx, hk2⟩ := at4 (sv b w + ((w <<< ((16 : Int32) &&& 31)) >>> ((16 : Int32) &&& 31)))
  have hz := hadt.trans f2
  generalize hp : uX (sv b w + ((w <<< ((16 : Int32) &&& 31)) >>> ((16 : Int32) &&& 31))) % 536870912 = p at *
  have hev := (al2 _).mp f3
  have hk3 : k % 2 = 0 := by omega
  have hq : p = 4 * (p / 4) + k := by omega
  refine ⟨_, _, ?_, hz, ?_, fin_late a b h w (qT w) (jn (jn 0 (b 1 p)) (b 1 (p + 1))) (and31_lt _) (by rw [ho]; rfl)⟩
  · simp (decide := true) only [f_S_perform_b30, f_S_orderOf, ho, f_S_perform_b272, f_S_performLoad, f_S_perform_b278, f_S_performStore, f_S_addressOf, vS a b h w, vT a b h w, nI_num, nT_eq, f_S_loadUnit, f_S_storeUnit, f_S_giveLate, f_S_give, f_M_replaceWord, bnd, bnv, if_true, if_false, f1, hpl, word_any (bg a) (rd b w) hR p f4, r1, jl_37 (b 1) hb _ _ _ k hk hk3 hx, ← hq]
  · have hl := ld_2 (rd b w) p (by omega)
    simp (decide := true) only [f_D_act, f_D_memory, f_D_part, f_D_part_b45, f_D_part_b73, f_D_part_b88, f_D_isPart, f_D_moved, f_D_number, zb_0, zb_1, rd_17, rd_18, rd_19, rd_20, rd_21, ho, obv, if_true, if_false, hpl, hl, r1]
theorem ins_35 (a b : St) (h : Rel a b) (w : Int32) (ho : ush w (26 : Int32) = 35) : Per (f_S_perform_b30 w (bg a)) (rd b w) := by
  have hR := rel_bg a b w h
  have hb : ∀ i, isb (b 1 i) := h.2.2.2.2.2.2
  have r1 := rd_j b w 1 (by decide)
  have hadt : trb (rd b w) = adt (sv b w + ((w <<< ((16 : Int32) &&& 31)) >>> ((16 : Int32) &&& 31))) (4 : Int32) (sv b w + ((w <<< ((16 : Int32) &&& 31)) >>> ((16 : Int32) &&& 31))) (4 : Int32) (4 : Int32) (rd b w) := by
    simp (decide := true) only [trb, f_D_isKnown, f_D_isKnown_b182, f_D_isKnown_b199, f_D_isKnown_b232, f_D_isKnown_b250, f_D_isKnown_b268, f_D_trouble_b24, f_D_addressTrouble, f_D_addressTrouble_b25, f_D_addressTrouble_b45, f_D_addressTrouble_b65, f_D_addressTrouble_b80, f_D_isPart, f_D_moved, f_D_number, zb_0, zb_1, rd_17, rd_18, rd_19, rd_21, ho, bnd, if_true, if_false]
    rfl
  rcases (e_data (bg a) (rd b w) hR (sv b w + ((w <<< ((16 : Int32) &&& 31)) >>> ((16 : Int32) &&& 31))) (4 : Int32) (sv b w + ((w <<< ((16 : Int32) &&& 31)) >>> ((16 : Int32) &&& 31))) (4 : Int32) (4 : Int32) ⟨sm4, by decide, by decide, by decide, by decide⟩ (hm4 _)).symm with ⟨r, a', b', hr, f1, f2, f3⟩ | ⟨f1, f2, f3, f4⟩
  · left
    refine ⟨r, a', b', hr, ?_, by rw [hadt]; exact f2, f3⟩
    have hr1 := hr.2.2.1
    simp (decide := true) only [f_S_perform_b30, f_S_orderOf, ho, f_S_perform_b272, f_S_performLoad, f_S_perform_b278, f_S_performStore, f_S_addressOf, vS a b h w, vT a b h w, nI_num, nT_eq, f_S_loadUnit, f_S_storeUnit, f_S_giveLate, f_S_give, f_M_replaceWord, bnd, bnv, if_true, if_false, f1, hr1]
  right
  have hpl := pl_eq (sv b w + ((w <<< ((16 : Int32) &&& 31)) >>> ((16 : Int32) &&& 31)))
  obtain ⟨k, hk, hx, hk2⟩ := at4 (sv b w + ((w <<< ((16 : Int32) &&& 31)) >>> ((16 : Int32) &&& 31)))
  have hz := hadt.trans f2
  generalize hp : uX (sv b w + ((w <<< ((16 : Int32) &&& 31)) >>> ((16 : Int32) &&& 31))) % 536870912 = p at *
  have hev := (al4 _).mp f3
  have hq4 : p = 4 * (p / 4) := by omega
  refine ⟨_, _, ?_, hz, ?_, fin_late a b h w (qT w) (w4 (b 1) p) (and31_lt _) (by rw [ho]; rfl)⟩
  · simp (decide := true) only [f_S_perform_b30, f_S_orderOf, ho, f_S_perform_b272, f_S_performLoad, f_S_perform_b278, f_S_performStore, f_S_addressOf, vS a b h w, vT a b h w, nI_num, nT_eq, f_S_loadUnit, f_S_storeUnit, f_S_giveLate, f_S_give, f_M_replaceWord, bnd, bnv, if_true, if_false, f1, hpl, word_any (bg a) (rd b w) hR p f4, r1, jl_35, ← hq4]
  · have hl := ld_4 (rd b w) p (by omega)
    simp (decide := true) only [f_D_act, f_D_memory, f_D_part, f_D_part_b45, f_D_part_b73, f_D_part_b88, f_D_isPart, f_D_moved, f_D_number, zb_0, zb_1, rd_17, rd_18, rd_19, rd_20, rd_21, ho, obv, if_true, if_false, hpl, hl, r1]
theorem ins_34 (a b : St) (h : Rel a b) (w : Int32) (ho : ush w (26 : Int32) = 34) : Per (f_S_perform_b30 w (bg a)) (rd b w) := by
  have hR := rel_bg a b w h
  have hb : ∀ i, isb (b 1 i) := h.2.2.2.2.2.2
  have r1 := rd_j b w 1 (by decide)
  have hadt : trb (rd b w) = adt (sv b w + ((w <<< ((16 : Int32) &&& 31)) >>> ((16 : Int32) &&& 31))) (1 : Int32) ((sv b w + ((w <<< ((16 : Int32) &&& 31)) >>> ((16 : Int32) &&& 31))) &&& (-4 : Int32)) (4 : Int32) (4 : Int32) (rd b w) := by
    simp (decide := true) only [trb, f_D_isKnown, f_D_isKnown_b182, f_D_isKnown_b199, f_D_isKnown_b232, f_D_isKnown_b250, f_D_isKnown_b268, f_D_trouble_b24, f_D_addressTrouble, f_D_addressTrouble_b25, f_D_addressTrouble_b45, f_D_addressTrouble_b65, f_D_addressTrouble_b80, f_D_isPart, f_D_moved, f_D_number, zb_0, zb_1, rd_17, rd_18, rd_19, rd_21, ho, bnd, if_true, if_false]
    rfl
  rcases (e_data (bg a) (rd b w) hR (sv b w + ((w <<< ((16 : Int32) &&& 31)) >>> ((16 : Int32) &&& 31))) (1 : Int32) ((sv b w + ((w <<< ((16 : Int32) &&& 31)) >>> ((16 : Int32) &&& 31))) &&& (-4 : Int32)) (4 : Int32) (4 : Int32) ⟨sm4, by decide, by decide, by decide, by decide⟩ (hmp _)).symm with ⟨r, a', b', hr, f1, f2, f3⟩ | ⟨f1, f2, f3, f4⟩
  · left
    refine ⟨r, a', b', hr, ?_, by rw [hadt]; exact f2, f3⟩
    have hr1 := hr.2.2.1
    simp (decide := true) only [f_S_perform_b30, f_S_orderOf, ho, f_S_perform_b272, f_S_performLoad, f_S_perform_b278, f_S_performStore, f_S_addressOf, vS a b h w, vT a b h w, nI_num, nT_eq, f_S_loadUnit, f_S_storeUnit, f_S_giveLate, f_S_give, f_M_replaceWord, bnd, bnv, if_true, if_false, f1, hr1]
  right
  have hpl := pl_eq (sv b w + ((w <<< ((16 : Int32) &&& 31)) >>> ((16 : Int32) &&& 31)))
  obtain ⟨k, hk, hx, hk2⟩ := at4 (sv b w + ((w <<< ((16 : Int32) &&& 31)) >>> ((16 : Int32) &&& 31)))
  have hz := hadt.trans f2
  generalize hp : uX (sv b w + ((w <<< ((16 : Int32) &&& 31)) >>> ((16 : Int32) &&& 31))) % 536870912 = p at *
  refine ⟨_, _, ?_, hz, ?_, fin_late a b h w (qT w) (if (8 : Int32) * ((sv b w + ((w <<< ((16 : Int32) &&& 31)) >>> ((16 : Int32) &&& 31))) &&& (3 : Int32)) = (0 : Int32) then w4 (b 1) (4 * (p / 4)) else (w4 (b 1) (4 * (p / 4)) <<< (((8 : Int32) * ((sv b w + ((w <<< ((16 : Int32) &&& 31)) >>> ((16 : Int32) &&& 31))) &&& (3 : Int32))) &&& 31)) ||| (lt_ b w &&& (((1 : Int32) <<< (((8 : Int32) * ((sv b w + ((w <<< ((16 : Int32) &&& 31)) >>> ((16 : Int32) &&& 31))) &&& (3 : Int32))) &&& 31)) - (1 : Int32)))) (and31_lt _) (by rw [ho]; rfl)⟩
  · simp (decide := true) only [f_S_perform_b30, f_S_orderOf, ho, f_S_perform_b272, f_S_performLoad, f_S_perform_b278, f_S_performStore, f_S_addressOf, vS a b h w, vT a b h w, nI_num, nT_eq, f_S_loadUnit, f_S_storeUnit, f_S_giveLate, f_S_give, f_M_replaceWord, bnd, bnv, if_true, if_false, f1, hpl, word_any (bg a) (rd b w) hR p f4, r1, lat_eq a b h w, jl_34 _ _ _ k hk hx]
  · have hl := ld_4 (rd b w) (4 * (p / 4)) (by omega)
    have r2 := rd_j b w 2 (by decide)
    unfold lt_
    by_cases hw : b 0 13 = qT w
    · by_cases hy : (8 : Int32) * ((sv b w + ((w <<< ((16 : Int32) &&& 31)) >>> ((16 : Int32) &&& 31))) &&& (3 : Int32)) = (0 : Int32)
      · simp (decide := true) only [f_D_act, f_D_memory, f_D_part, f_D_part_b45, f_D_part_b73, f_D_part_b88, f_D_isPart, f_D_moved, f_D_number, zb_0, zb_1, rd_17, rd_18, rd_19, rd_20, rd_21, ho, obv, if_true, if_false, hpl, n4, hl, r1, r2, rd_lo b w 13 (by decide), rd_lo b w 14 (by decide), inb_q, hw, hy]
      · simp (decide := true) only [f_D_act, f_D_memory, f_D_part, f_D_part_b45, f_D_part_b73, f_D_part_b88, f_D_isPart, f_D_moved, f_D_number, zb_0, zb_1, rd_17, rd_18, rd_19, rd_20, rd_21, ho, obv, if_true, if_false, hpl, n4, hl, r1, r2, rd_lo b w 13 (by decide), rd_lo b w 14 (by decide), inb_q, hw, hy]
    · by_cases hy : (8 : Int32) * ((sv b w + ((w <<< ((16 : Int32) &&& 31)) >>> ((16 : Int32) &&& 31))) &&& (3 : Int32)) = (0 : Int32)
      · simp (decide := true) only [f_D_act, f_D_memory, f_D_part, f_D_part_b45, f_D_part_b73, f_D_part_b88, f_D_isPart, f_D_moved, f_D_number, zb_0, zb_1, rd_17, rd_18, rd_19, rd_20, rd_21, ho, obv, if_true, if_false, hpl, n4, hl, r1, r2, rd_lo b w 13 (by decide), rd_lo b w 14 (by decide), inb_q, hw, hy]
      · simp (decide := true) only [f_D_act, f_D_memory, f_D_part, f_D_part_b45, f_D_part_b73, f_D_part_b88, f_D_isPart, f_D_moved, f_D_number, zb_0, zb_1, rd_17, rd_18, rd_19, rd_20, rd_21, ho, obv, if_true, if_false, hpl, n4, hl, r1, r2, rd_lo b w 13 (by decide), rd_lo b w 14 (by decide), inb_q, hw, hy]
theorem ins_38 (a b : St) (h : Rel a b) (w : Int32) (ho : ush w (26 : Int32) = 38) : Per (f_S_perform_b30 w (bg a)) (rd b w) := by
  have hR := rel_bg a b w h
  have hb : ∀ i, isb (b 1 i) := h.2.2.2.2.2.2
  have r1 := rd_j b w 1 (by decide)
  have hadt : trb (rd b w) = adt (sv b w + ((w <<< ((16 : Int32) &&& 31)) >>> ((16 : Int32) &&& 31))) (1 : Int32) ((sv b w + ((w <<< ((16 : Int32) &&& 31)) >>> ((16 : Int32) &&& 31))) &&& (-4 : Int32)) (4 : Int32) (4 : Int32) (rd b w) := by
    simp (decide := true) only [trb, f_D_isKnown, f_D_isKnown_b182, f_D_isKnown_b199, f_D_isKnown_b232, f_D_isKnown_b250, f_D_isKnown_b268, f_D_trouble_b24, f_D_addressTrouble, f_D_addressTrouble_b25, f_D_addressTrouble_b45, f_D_addressTrouble_b65, f_D_addressTrouble_b80, f_D_isPart, f_D_moved, f_D_number, zb_0, zb_1, rd_17, rd_18, rd_19, rd_21, ho, bnd, if_true, if_false]
    rfl
  rcases (e_data (bg a) (rd b w) hR (sv b w + ((w <<< ((16 : Int32) &&& 31)) >>> ((16 : Int32) &&& 31))) (1 : Int32) ((sv b w + ((w <<< ((16 : Int32) &&& 31)) >>> ((16 : Int32) &&& 31))) &&& (-4 : Int32)) (4 : Int32) (4 : Int32) ⟨sm4, by decide, by decide, by decide, by decide⟩ (hmp _)).symm with ⟨r, a', b', hr, f1, f2, f3⟩ | ⟨f1, f2, f3, f4⟩
  · left
    refine ⟨r, a', b', hr, ?_, by rw [hadt]; exact f2, f3⟩
    have hr1 := hr.2.2.1
    simp (decide := true) only [f_S_perform_b30, f_S_orderOf, ho, f_S_perform_b272, f_S_performLoad, f_S_perform_b278, f_S_performStore, f_S_addressOf, vS a b h w, vT a b h w, nI_num, nT_eq, f_S_loadUnit, f_S_storeUnit, f_S_giveLate, f_S_give, f_M_replaceWord, bnd, bnv, if_true, if_false, f1, hr1]
  right
  have hpl := pl_eq (sv b w + ((w <<< ((16 : Int32) &&& 31)) >>> ((16 : Int32) &&& 31)))
  obtain ⟨k, hk, hx, hk2⟩ := at4 (sv b w + ((w <<< ((16 : Int32) &&& 31)) >>> ((16 : Int32) &&& 31)))
  have hz := hadt.trans f2
  generalize hp : uX (sv b w + ((w <<< ((16 : Int32) &&& 31)) >>> ((16 : Int32) &&& 31))) % 536870912 = p at *
  refine ⟨_, _, ?_, hz, ?_, fin_late a b h w (qT w) (if (8 : Int32) * ((3 : Int32) - ((sv b w + ((w <<< ((16 : Int32) &&& 31)) >>> ((16 : Int32) &&& 31))) &&& (3 : Int32))) = (0 : Int32) then w4 (b 1) (4 * (p / 4)) else (ush (w4 (b 1) (4 * (p / 4))) ((8 : Int32) * ((3 : Int32) - ((sv b w + ((w <<< ((16 : Int32) &&& 31)) >>> ((16 : Int32) &&& 31))) &&& (3 : Int32))))) ||| (lt_ b w &&& ((-1 : Int32) <<< (((32 : Int32) - ((8 : Int32) * ((3 : Int32) - ((sv b w + ((w <<< ((16 : Int32) &&& 31)) >>> ((16 : Int32) &&& 31))) &&& (3 : Int32))))) &&& 31)))) (and31_lt _) (by rw [ho]; rfl)⟩
  · simp (decide := true) only [f_S_perform_b30, f_S_orderOf, ho, f_S_perform_b272, f_S_performLoad, f_S_perform_b278, f_S_performStore, f_S_addressOf, vS a b h w, vT a b h w, nI_num, nT_eq, f_S_loadUnit, f_S_storeUnit, f_S_giveLate, f_S_give, f_M_replaceWord, bnd, bnv, if_true, if_false, f1, hpl, word_any (bg a) (rd b w) hR p f4, r1, lat_eq a b h w, jl_38 _ _ _ k hk hx]
  · have hl := ld_4 (rd b w) (4 * (p / 4)) (by omega)
    have r2 := rd_j b w 2 (by decide)
    unfold lt_
    by_cases hw : b 0 13 = qT w
    · by_cases hy : (8 : Int32) * ((3 : Int32) - ((sv b w + ((w <<< ((16 : Int32) &&& 31)) >>> ((16 : Int32) &&& 31))) &&& (3 : Int32))) = (0 : Int32)
      · simp (decide := true) only [f_D_act, f_D_memory, f_D_part, f_D_part_b45, f_D_part_b73, f_D_part_b88, f_D_isPart, f_D_moved, f_D_number, zb_0, zb_1, rd_17, rd_18, rd_19, rd_20, rd_21, ho, obv, if_true, if_false, hpl, n4, hl, r1, r2, rd_lo b w 13 (by decide), rd_lo b w 14 (by decide), inb_q, hw, hy]
      · simp (decide := true) only [f_D_act, f_D_memory, f_D_part, f_D_part_b45, f_D_part_b73, f_D_part_b88, f_D_isPart, f_D_moved, f_D_number, zb_0, zb_1, rd_17, rd_18, rd_19, rd_20, rd_21, ho, obv, if_true, if_false, hpl, n4, hl, r1, r2, rd_lo b w 13 (by decide), rd_lo b w 14 (by decide), inb_q, hw, hy]
    · by_cases hy : (8 : Int32) * ((3 : Int32) - ((sv b w + ((w <<< ((16 : Int32) &&& 31)) >>> ((16 : Int32) &&& 31))) &&& (3 : Int32))) = (0 : Int32)
      · simp (decide := true) only [f_D_act, f_D_memory, f_D_part, f_D_part_b45, f_D_part_b73, f_D_part_b88, f_D_isPart, f_D_moved, f_D_number, zb_0, zb_1, rd_17, rd_18, rd_19, rd_20, rd_21, ho, obv, if_true, if_false, hpl, n4, hl, r1, r2, rd_lo b w 13 (by decide), rd_lo b w 14 (by decide), inb_q, hw, hy]
      · simp (decide := true) only [f_D_act, f_D_memory, f_D_part, f_D_part_b45, f_D_part_b73, f_D_part_b88, f_D_isPart, f_D_moved, f_D_number, zb_0, zb_1, rd_17, rd_18, rd_19, rd_20, rd_21, ho, obv, if_true, if_false, hpl, n4, hl, r1, r2, rd_lo b w 13 (by decide), rd_lo b w 14 (by decide), inb_q, hw, hy]
