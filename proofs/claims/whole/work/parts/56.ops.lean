/-! the other calls, alike -/
/-- a call that may throw (class: none), the reference's answer and its note 'thrown' -/
def Op2 (x : Option (Int32 × St)) (a : St) (y : Option (Int32 × St)) : Prop := ∃ r b', y = some (r, b') ∧ ((x = none ∧ b' 0 0 = 1 ∧ Rel a b') ∨ (∃ a', x = some (r, a') ∧ b' 0 0 = 0 ∧ Rel a' b'))
theorem goes_0 (b : St) : f_D_goes 0 b = ((0 : Int32), sU b 0 0 (1 : Int32)) := by
  unfold f_D_goes
  rw [if_pos zb_0]
theorem goes_1 (b : St) : f_D_goes 1 b = ((1 : Int32), sU b 0 0 (0 : Int32)) := by
  unfold f_D_goes
  rw [if_neg (by decide)]
theorem rel_th (a b : St) (v : Int32) (h : Rel a b) : Rel a (sU b 0 0 v) := (rel_scr _ _ _ _ (by decide)).mpr h
theorem sU00 (b : St) (v : Int32) : sU b 0 0 v 0 0 = v := by simp only [sU_at]; simp
theorem isW_eq (x : Int32) : (f_S_isPlaceOfWord x = 0 ∧ f_D_isWord x = 0) ∨ (f_S_isPlaceOfWord x = 1 ∧ f_D_isWord x = 1 ∧ ∃ j, j < 1024 ∧ x = nI (4 * j)) := by
  have hx := uX_lt x
  unfold f_S_isPlaceOfWord f_D_isWord
  by_cases hn : x < 0
  · left
    have e : f_S_isInMemory x = 0 := by unfold f_S_isInMemory; rw [if_pos hn]
    rw [if_pos hn, e]
    refine ⟨?_, rfl⟩
    by_cases h3 : x &&& (3 : Int32) = 0
    · rw [if_pos h3]; rfl
    · rw [if_neg h3]
  · obtain ⟨m, hm, rfl⟩ := nI_of hn
    rw [if_neg hn]
    have e3 : nI m &&& (3 : Int32) = 0 ↔ m % 4 = 0 := by rw [and3_0, uX_nI (by omega)]
    have e4 : nI m - nI m / (4 : Int32) * (4 : Int32) = nI (m % 4) := by
      rw [show (4 : Int32) = nI 4 from rfl]; exact pk_rem hm (by omega) (by omega)
    have e5 : nI (m % 4) = (0 : Int32) ↔ m % 4 = 0 := by rw [← nI_0]; exact nI_eq (by omega) (by omega)
    rw [e4]
    have e6 : f_S_isInMemory (nI m) = if m < 4096 then 1 else 0 := by
      unfold f_S_isInMemory
      rw [if_neg hn, show (4096 : Int32) = nI 4096 from rfl]
      by_cases h : m < 4096
      · rw [if_neg (nI_ge h (by omega)), if_pos h]
      · rw [if_pos (nI_le (by omega) hm), if_neg h]
    rw [e6]
    by_cases h1 : m < 4096
    · by_cases h2 : m % 4 = 0
      · right
        rw [if_pos (e3.mpr h2), if_pos h1, if_neg (show ¬ (4092 : Int32) < nI m from nI_nlt (a := 4092) (b := m) (by omega) (by omega)), if_pos (e5.mpr h2)]
        exact ⟨rfl, rfl, m / 4, by omega, by rw [show 4 * (m / 4) = m by omega]⟩
      · left
        rw [if_neg (fun z => h2 (e3.mp z)), if_neg (fun z => h2 (e5.mp z)), ite_self]
        exact ⟨rfl, rfl⟩
    · left
      rw [if_neg h1, if_pos (show (4092 : Int32) < nI m from nI_lt (a := 4092) (b := m) (by omega) (by omega))]
      refine ⟨?_, rfl⟩
      by_cases h3 : nI m &&& (3 : Int32) = 0
      · rw [if_pos h3]; rfl
      · rw [if_neg h3]
theorem e_put (a b : St) (h : Rel a b) (x v : Int32) : Op2 (f_S_put x v a) a (f_D_put x v b) := by
  unfold f_S_put f_D_put
  rcases isW_eq x with ⟨e1, e2⟩ | ⟨e1, e2, j, hj, rfl⟩
  · rw [e1, e2, goes_0]
    simp only [bnd]
    rw [if_pos zb_0, if_pos zb_0]
    exact ⟨_, _, rfl, Or.inl ⟨rfl, sU00 _ _, rel_th a b _ h⟩⟩
  · rw [e1, e2, goes_1]
    simp only [bnd, bnv]
    rw [if_neg (by decide), if_neg (by decide), ld_4 _ (4 * j) (by omega), st_4 (4 * j) v _ (by omega)]
    simp only [obv]
    have hR := rel_th a b 0 h
    have hb := hR.2.2.2.2.2.2
    have e3 := word_j a _ hR j 0 hj (by omega)
    rw [Nat.add_zero] at e3
    have e4 := idx_j j 0 hj (by omega)
    rw [Nat.add_zero] at e4
    refine ⟨_, _, rfl, Or.inr ⟨_, by rw [e3], ?_, ?_⟩⟩
    · simp only [sU_at]; simp
    · unfold f_M_replaceWord
      rw [e4]
      refine rel_mem a _ _ hR j v ?_ ?_ ?_ ?_ ?_
      · rw [sU_fn, if_neg (by decide), sU_fn, if_neg (by decide), sU_fn, if_neg (by decide), sU_fn, if_neg (by decide)]
      · rw [sU_fn, if_neg (by decide), sU_fn, if_neg (by decide), sU_fn, if_neg (by decide), sU_fn, if_neg (by decide)]
      · rw [w4_b]
        simp only [sU_fn, reduceIte, Nat.reduceEqDiff]
        simp [upd]
        exact sw_w v
      · intro i hi
        simp only [sU_fn, reduceIte, Nat.reduceEqDiff]
        unfold upd
        rw [if_neg (by omega), if_neg (by omega), if_neg (by omega), if_neg (by omega)]
      · intro i
        simp only [sU_fn, reduceIte, Nat.reduceEqDiff] at hb ⊢
        unfold upd
        (repeat' split) <;> first | with_reducible exact by0_b _ | with_reducible exact by8_b _ | with_reducible exact by16_b _ | with_reducible exact by24_b _ | with_reducible exact hb i
def Op1 (x : Option Int32) (a : St) (y : Option (Int32 × St)) : Prop := ∃ r b', y = some (r, b') ∧ Rel a b' ∧ ((x = none ∧ b' 0 0 = 1) ∨ (x = some r ∧ b' 0 0 = 0))
theorem e_word (a b : St) (h : Rel a b) (x : Int32) : Op1 (f_S_word x a) a (f_D_word x b) := by
  unfold f_S_word f_D_word
  rcases isW_eq x with ⟨e1, e2⟩ | ⟨e1, e2, j, hj, rfl⟩
  · rw [e1, e2, goes_0]
    simp only [bnd]
    rw [if_pos zb_0, if_pos zb_0]
    exact ⟨_, _, rfl, rel_th a b _ h, Or.inl ⟨rfl, sU00 _ _⟩⟩
  · rw [e1, e2, goes_1]
    simp only [bnd]
    rw [if_neg (by decide), if_neg (by decide), ld_4 _ (4 * j) (by omega)]
    simp only [obv]
    have hR := rel_th a b 0 h
    have e3 := word_j a _ hR j 0 hj (by omega)
    rw [Nat.add_zero] at e3
    exact ⟨_, _, rfl, hR, Or.inr ⟨by rw [e3], sU00 _ _⟩⟩
theorem reg_eq (x : Int32) : (x < 0 ∨ (34 : Int32) ≤ x) ∨ (¬ x < 0 ∧ ¬ (34 : Int32) ≤ x ∧ x < 34 ∧ ∃ j, j < 34 ∧ x = nI j) := by
  by_cases h1 : x < 0
  · exact Or.inl (Or.inl h1)
  · by_cases h2 : (34 : Int32) ≤ x
    · exact Or.inl (Or.inr h2)
    · right
      obtain ⟨j, hj, rfl⟩ := nI_of h1
      have h3 : j < 34 := by
        rcases Nat.lt_or_ge j 34 with h | h
        · exact h
        · exact absurd (nI_le h hj) h2
      exact ⟨h1, h2, nI_lt (a := j) (b := 34) h3 (by omega), j, h3, rfl⟩
theorem nlt34 {x : Int32} (h : (34 : Int32) ≤ x) : ¬ x < 34 := by
  rw [Int32.le_iff_toInt_le] at h
  rw [Int32.lt_iff_toInt_lt]
  omega
theorem e_register (a b : St) (h : Rel a b) (x : Int32) : Op1 (f_S_register x a) a (f_D_register x b) := by
  unfold f_S_register f_D_register f_D_register_b15 f_D_register_b16 f_S_register_b10
  have bad : Op1 none a (bnd (f_D_goes 0 b) (fun r16 u16 => if (zb r16) = (0 : Int32) then some (((0 : Int32), u16)) else if inb x 34 then some (((u16 2) x.toNatClampNeg, u16)) else none)) := by
    rw [goes_0]
    simp only [bnd]
    rw [if_pos zb_0]
    exact ⟨_, _, rfl, rel_th a b _ h, Or.inl ⟨rfl, sU00 _ _⟩⟩
  rcases reg_eq x with h1 | ⟨h1, h2, h3, j, hj, rfl⟩
  · by_cases h2 : x < 0
    · rw [if_pos h2, if_pos h2]; exact bad
    · have h3 := h1.resolve_left h2
      rw [if_neg h2, if_neg (nlt34 h3), if_neg h2, if_pos h3]; exact bad
  · rw [if_neg h1, if_pos h3, if_neg h1, if_neg h2, goes_1]
    simp only [bnd]
    rw [if_neg (by decide), inb_nI hj (by omega), if_pos rfl, my_cln (by omega)]
    have hR := rel_th a b 0 h
    refine ⟨_, _, rfl, hR, Or.inr ⟨?_, sU00 _ _⟩⟩
    unfold f_R_valueOf
    rw [if_neg h1, if_neg h2, my_cln (by omega), hR.2.1.1 j hj]
theorem e_set (a b : St) (h : Rel a b) (x v : Int32) : Op2 (f_S_set x v a) a (f_D_set x v b) := by
  unfold f_S_set f_D_set f_D_set_b15 f_D_set_b16 f_S_set_b10
  have bad : ∀ F : Int32 → St → Option (Int32 × St), (∀ u, F 0 u = some ((0 : Int32), u)) → Op2 none a (bnd (f_D_goes 0 b) F) := by
    intro F hF
    rw [goes_0]
    simp only [bnd]
    rw [hF]
    exact ⟨_, _, rfl, Or.inl ⟨rfl, sU00 _ _, rel_th a b _ h⟩⟩
  rcases reg_eq x with h1 | ⟨h1, h2, h3, j, hj, rfl⟩
  · by_cases h2 : x < 0
    · rw [if_pos h2, if_pos h2]; exact bad _ (fun u => by rw [if_pos zb_0])
    · have h3 := h1.resolve_left h2
      rw [if_neg h2, if_neg (nlt34 h3), if_neg h2, if_pos h3]; exact bad _ (fun u => by rw [if_pos zb_0])
  · rw [if_neg h1, if_pos h3, if_neg h1, if_neg h2, goes_1]
    simp only [bnd, bnv]
    rw [if_neg (by decide), inb_nI hj (by omega), if_pos rfl, my_cln (by omega)]
    have hR := rel_th a b 0 h
    have ev : f_R_valueOf (nI j) a = sU b 0 0 0 2 j := by
      unfold f_R_valueOf
      rw [if_neg h1, if_neg h2, my_cln (by omega), hR.2.1.1 j hj]
    rw [ev]
    obtain ⟨⟨p1, p2, p3, p4, p5⟩, ⟨r1, r2⟩, ⟨w1, w2, w3⟩, ⟨c1, c2, c3, c4⟩, ⟨d1, d2, d3⟩, m1, m2⟩ := hR
    by_cases h0 : nI j = 0
    · have hj0 : j = 0 := (nI_eq (by omega) (by omega)).mp (h0.trans nI_0.symm)
      subst hj0
      rw [if_pos h0]
      refine ⟨_, _, rfl, Or.inr ⟨_, rfl, ?_, ?_⟩⟩
      · simp only [sU_at]; simp
      · unfold f_R_change
        rw [if_pos (show nI 0 ≤ 0 by decide)]
        generalize sU b 0 0 0 = B at *
        simp only [Rel, sU_at, sU_fn]
        simp [*, upd]
        refine ⟨fun z hz => ?_, m1⟩
        by_cases e : z = 0
        · rw [e]; simp [r1 0 (by omega), r2]
        · simp [e, r1 z hz]
    · rw [if_neg h0, if_pos rfl]
      have hj0 : ¬ 0 = j := fun e => h0 (by rw [← e]; rfl)
      refine ⟨_, _, rfl, Or.inr ⟨_, rfl, ?_, ?_⟩⟩
      · simp only [sU_at]; simp
      · unfold f_R_change
        rw [if_neg (nI_nle (by omega) (by omega)), if_neg h2, my_cln (by omega)]
        generalize sU b 0 0 0 = B at *
        simp only [Rel, sU_at, sU_fn]
        simp [*, upd]
        exact ⟨fun z hz => by rw [r1 z hz], m1⟩
theorem e_go (a b : St) (h : Rel a b) (x : Int32) : (f_S_go x a).1 = (f_D_go x b).1 ∧ Rel (f_S_go x a).2 (f_D_go x b).2 := by
  obtain ⟨⟨p1, p2, p3, p4, p5⟩, ⟨r1, r2⟩, ⟨w1, w2, w3⟩, ⟨c1, c2, c3, c4⟩, ⟨d1, d2, d3⟩, m1, m2⟩ := h
  have m1' : (-1 : Int32).toInt < 32 := by decide
  unfold f_S_go f_D_go f_R_dropLoad f_R_holdLoad f_S_continueAt
  refine ⟨p1, ?_⟩
  simp only [bnv]
  simp only [Rel, sU_at, sU_fn]
  simp [*]
  exact ⟨r1, m1⟩
theorem e_status (a b : St) (h : Rel a b) (x : Int32) : (f_S_status x a).1 = (f_D_status x b).1 ∧ Rel (f_S_status x a).2 (f_D_status x b).2 := by
  obtain ⟨⟨p1, p2, p3, p4, p5⟩, ⟨r1, r2⟩, ⟨w1, w2, w3⟩, ⟨c1, c2, c3, c4⟩, ⟨d1, d2, d3⟩, m1, m2⟩ := h
  unfold f_S_status f_D_status f_C_change
  refine ⟨c1, ?_⟩
  simp only [bnv, if_true]
  simp only [Rel, sU_at, sU_fn]
  simp [*]
  exact ⟨r1, m1⟩
theorem lines_eq (x : Int32) : (63 : Int32) < x ↔ ¬ x ≤ 63 := by
  rw [Int32.le_iff_toInt_le, Int32.lt_iff_toInt_lt]
  omega
theorem e_lines (a b : St) (h : Rel a b) (x : Int32) : Op2 (f_S_lines x a) a (some (f_D_lines x b)) := by
  unfold f_S_lines f_D_lines f_D_lines_b15 f_D_lines_b16 f_S_lines_b10
  have bad : ∀ F : Int32 → St → Int32 × St, (∀ u, F 0 u = ((0 : Int32), u)) → Op2 none a (some (bnd (f_D_goes 0 b) F)) := by
    intro F hF
    rw [goes_0]
    simp only [bnd]
    rw [hF]
    exact ⟨_, _, rfl, Or.inl ⟨rfl, sU00 _ _, rel_th a b _ h⟩⟩
  by_cases h1 : x < 0
  · rw [if_pos h1, if_pos h1]; exact bad _ (fun u => by rw [if_pos zb_0])
  · rw [if_neg h1, if_neg h1]
    by_cases h2 : x ≤ 63
    · rw [if_pos h2, if_neg (fun z => (lines_eq x).mp z h2), goes_1]
      simp only [bnd]
      rw [if_neg (by decide)]
      have hR := rel_th a b 0 h
      obtain ⟨⟨p1, p2, p3, p4, p5⟩, ⟨r1, r2⟩, ⟨w1, w2, w3⟩, ⟨c1, c2, c3, c4⟩, ⟨d1, d2, d3⟩, m1, m2⟩ := hR
      refine ⟨_, _, rfl, Or.inr ⟨_, by rw [c2], ?_, ?_⟩⟩
      · simp only [sU_at]; simp
      · generalize sU b 0 0 0 = B at *
        simp only [Rel, sU_at, sU_fn]
        simp [*]
        exact ⟨r1, m1⟩
    · rw [if_neg h2, if_pos ((lines_eq x).mpr h2)]; exact bad _ (fun u => by rw [if_pos zb_0])
