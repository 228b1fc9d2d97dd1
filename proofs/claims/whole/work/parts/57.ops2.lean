/-! look, reset, run -/
theorem look_bad (x : Int32) (h : x < 0 ∨ (10 : Int32) < x) (a : St) : f_S_look x a = none := by
  have hx : x.toInt < 0 ∨ 10 < x.toInt := by
    rw [Int32.lt_iff_toInt_lt, Int32.lt_iff_toInt_lt] at h
    exact h
  have ne : ∀ k : Int32, 0 ≤ k.toInt → k.toInt ≤ 10 → ¬ x = k := fun k h1 h2 e => by rw [e] at hx; omega
  unfold f_S_look
  rw [if_neg (ne 0 (by decide) (by decide)), if_neg (ne 1 (by decide) (by decide)), if_neg (ne 2 (by decide) (by decide)), if_neg (ne 3 (by decide) (by decide)), if_neg (ne 4 (by decide) (by decide)), if_neg (ne 5 (by decide) (by decide)), if_neg (ne 6 (by decide) (by decide)), if_neg (ne 7 (by decide) (by decide)), if_neg (ne 8 (by decide) (by decide)), if_neg (ne 9 (by decide) (by decide)), if_neg (ne 10 (by decide) (by decide))]
theorem e_look (a b : St) (h : Rel a b) (x : Int32) : Op1 (f_S_look x a) a (some (f_D_look x b)) := by
  unfold f_D_look f_D_look_b15 f_D_look_b16
  have bad : ∀ F : Int32 → St → Int32 × St, (∀ u, F 0 u = ((0 : Int32), u)) → Op1 none a (some (bnd (f_D_goes 0 b) F)) := by
    intro F hF
    rw [goes_0]
    simp only [bnd]
    rw [hF]
    exact ⟨_, _, rfl, rel_th a b _ h, Or.inl ⟨rfl, sU00 _ _⟩⟩
  by_cases h1 : x < 0
  · rw [if_pos h1, look_bad x (Or.inl h1)]; exact bad _ (fun u => by rw [if_pos zb_0])
  · rw [if_neg h1]
    by_cases h2 : (10 : Int32) < x
    · rw [if_pos h2, look_bad x (Or.inr h2)]; exact bad _ (fun u => by rw [if_pos zb_0])
    · rw [if_neg h2, goes_1]
      simp only [bnd]
      rw [if_neg (by decide)]
      have hR := rel_th a b 0 h
      have hC := cause_eq a _ hR
      have h00 := sU00 b 0
      generalize sU b 0 0 0 = B at *
      obtain ⟨⟨p1, p2, p3, p4, p5⟩, -, ⟨w1, w2, w3⟩, ⟨c1, c2, c3, c4⟩, -, -⟩ := id hR
      obtain ⟨j, hj, rfl⟩ := nI_of h1
      have hj2 : j ≤ 10 := by
        rcases Nat.lt_or_ge 10 j with z | z
        · exact absurd (nI_lt (a := 10) (b := j) z hj) h2
        · exact z
      have hd : j = 0 ∨ j = 1 ∨ j = 2 ∨ j = 3 ∨ j = 4 ∨ j = 5 ∨ j = 6 ∨ j = 7 ∨ j = 8 ∨ j = 9 ∨ j = 10 := by omega
      unfold f_S_look
      rcases hd with rfl | rfl | rfl | rfl | rfl | rfl | rfl | rfl | rfl | rfl | rfl
      · rw [if_pos (show nI 0 = (0 : Int32) from rfl), if_pos (show nI 0 = (0 : Int32) from rfl), p1]; exact ⟨_, _, rfl, hR, Or.inr ⟨rfl, h00⟩⟩
      · rw [if_neg (show ¬ nI 1 = (0 : Int32) by decide), if_pos (show nI 1 = (1 : Int32) from rfl), if_neg (show ¬ nI 1 = (0 : Int32) by decide), if_pos (show nI 1 = (1 : Int32) from rfl), p2]; exact ⟨_, _, rfl, hR, Or.inr ⟨rfl, h00⟩⟩
      · rw [if_neg (show ¬ nI 2 = (0 : Int32) by decide), if_neg (show ¬ nI 2 = (1 : Int32) by decide), if_pos (show nI 2 = (2 : Int32) from rfl), if_neg (show ¬ nI 2 = (0 : Int32) by decide), if_neg (show ¬ nI 2 = (1 : Int32) by decide), if_pos (show nI 2 = (2 : Int32) from rfl), c1]; exact ⟨_, _, rfl, hR, Or.inr ⟨rfl, h00⟩⟩
      · rw [if_neg (show ¬ nI 3 = (0 : Int32) by decide), if_neg (show ¬ nI 3 = (1 : Int32) by decide), if_neg (show ¬ nI 3 = (2 : Int32) by decide), if_pos (show nI 3 = (3 : Int32) from rfl), if_neg (show ¬ nI 3 = (0 : Int32) by decide), if_neg (show ¬ nI 3 = (1 : Int32) by decide), if_neg (show ¬ nI 3 = (2 : Int32) by decide), if_pos (show nI 3 = (3 : Int32) from rfl), hC]; exact ⟨_, _, rfl, hR, Or.inr ⟨rfl, h00⟩⟩
      · rw [if_neg (show ¬ nI 4 = (0 : Int32) by decide), if_neg (show ¬ nI 4 = (1 : Int32) by decide), if_neg (show ¬ nI 4 = (2 : Int32) by decide), if_neg (show ¬ nI 4 = (3 : Int32) by decide), if_pos (show nI 4 = (4 : Int32) from rfl), if_neg (show ¬ nI 4 = (0 : Int32) by decide), if_neg (show ¬ nI 4 = (1 : Int32) by decide), if_neg (show ¬ nI 4 = (2 : Int32) by decide), if_neg (show ¬ nI 4 = (3 : Int32) by decide), if_pos (show nI 4 = (4 : Int32) from rfl), c3]; exact ⟨_, _, rfl, hR, Or.inr ⟨rfl, h00⟩⟩
      · rw [if_neg (show ¬ nI 5 = (0 : Int32) by decide), if_neg (show ¬ nI 5 = (1 : Int32) by decide), if_neg (show ¬ nI 5 = (2 : Int32) by decide), if_neg (show ¬ nI 5 = (3 : Int32) by decide), if_neg (show ¬ nI 5 = (4 : Int32) by decide), if_pos (show nI 5 = (5 : Int32) from rfl), if_neg (show ¬ nI 5 = (0 : Int32) by decide), if_neg (show ¬ nI 5 = (1 : Int32) by decide), if_neg (show ¬ nI 5 = (2 : Int32) by decide), if_neg (show ¬ nI 5 = (3 : Int32) by decide), if_neg (show ¬ nI 5 = (4 : Int32) by decide), if_pos (show nI 5 = (5 : Int32) from rfl), c4]; exact ⟨_, _, rfl, hR, Or.inr ⟨rfl, h00⟩⟩
      · rw [if_neg (show ¬ nI 6 = (0 : Int32) by decide), if_neg (show ¬ nI 6 = (1 : Int32) by decide), if_neg (show ¬ nI 6 = (2 : Int32) by decide), if_neg (show ¬ nI 6 = (3 : Int32) by decide), if_neg (show ¬ nI 6 = (4 : Int32) by decide), if_neg (show ¬ nI 6 = (5 : Int32) by decide), if_pos (show nI 6 = (6 : Int32) from rfl), if_neg (show ¬ nI 6 = (0 : Int32) by decide), if_neg (show ¬ nI 6 = (1 : Int32) by decide), if_neg (show ¬ nI 6 = (2 : Int32) by decide), if_neg (show ¬ nI 6 = (3 : Int32) by decide), if_neg (show ¬ nI 6 = (4 : Int32) by decide), if_neg (show ¬ nI 6 = (5 : Int32) by decide), if_pos (show nI 6 = (6 : Int32) from rfl), p3]
        by_cases hz : zb (B 0 12) = 0
        · rw [if_pos hz, if_pos hz]; exact ⟨_, _, rfl, hR, Or.inr ⟨rfl, h00⟩⟩
        · rw [if_neg hz, if_neg hz]; exact ⟨_, _, rfl, hR, Or.inr ⟨rfl, h00⟩⟩
      · rw [if_neg (show ¬ nI 7 = (0 : Int32) by decide), if_neg (show ¬ nI 7 = (1 : Int32) by decide), if_neg (show ¬ nI 7 = (2 : Int32) by decide), if_neg (show ¬ nI 7 = (3 : Int32) by decide), if_neg (show ¬ nI 7 = (4 : Int32) by decide), if_neg (show ¬ nI 7 = (5 : Int32) by decide), if_neg (show ¬ nI 7 = (6 : Int32) by decide), if_pos (show nI 7 = (7 : Int32) from rfl), if_neg (show ¬ nI 7 = (0 : Int32) by decide), if_neg (show ¬ nI 7 = (1 : Int32) by decide), if_neg (show ¬ nI 7 = (2 : Int32) by decide), if_neg (show ¬ nI 7 = (3 : Int32) by decide), if_neg (show ¬ nI 7 = (4 : Int32) by decide), if_neg (show ¬ nI 7 = (5 : Int32) by decide), if_neg (show ¬ nI 7 = (6 : Int32) by decide), if_pos (show nI 7 = (7 : Int32) from rfl), w1]; exact ⟨_, _, rfl, hR, Or.inr ⟨rfl, h00⟩⟩
      · rw [if_neg (show ¬ nI 8 = (0 : Int32) by decide), if_neg (show ¬ nI 8 = (1 : Int32) by decide), if_neg (show ¬ nI 8 = (2 : Int32) by decide), if_neg (show ¬ nI 8 = (3 : Int32) by decide), if_neg (show ¬ nI 8 = (4 : Int32) by decide), if_neg (show ¬ nI 8 = (5 : Int32) by decide), if_neg (show ¬ nI 8 = (6 : Int32) by decide), if_neg (show ¬ nI 8 = (7 : Int32) by decide), if_pos (show nI 8 = (8 : Int32) from rfl), if_neg (show ¬ nI 8 = (0 : Int32) by decide), if_neg (show ¬ nI 8 = (1 : Int32) by decide), if_neg (show ¬ nI 8 = (2 : Int32) by decide), if_neg (show ¬ nI 8 = (3 : Int32) by decide), if_neg (show ¬ nI 8 = (4 : Int32) by decide), if_neg (show ¬ nI 8 = (5 : Int32) by decide), if_neg (show ¬ nI 8 = (6 : Int32) by decide), if_neg (show ¬ nI 8 = (7 : Int32) by decide), if_pos (show nI 8 = (8 : Int32) from rfl), w2]; exact ⟨_, _, rfl, hR, Or.inr ⟨rfl, h00⟩⟩
      · rw [if_neg (show ¬ nI 9 = (0 : Int32) by decide), if_neg (show ¬ nI 9 = (1 : Int32) by decide), if_neg (show ¬ nI 9 = (2 : Int32) by decide), if_neg (show ¬ nI 9 = (3 : Int32) by decide), if_neg (show ¬ nI 9 = (4 : Int32) by decide), if_neg (show ¬ nI 9 = (5 : Int32) by decide), if_neg (show ¬ nI 9 = (6 : Int32) by decide), if_neg (show ¬ nI 9 = (7 : Int32) by decide), if_neg (show ¬ nI 9 = (8 : Int32) by decide), if_pos (show nI 9 = (9 : Int32) from rfl), if_neg (show ¬ nI 9 = (0 : Int32) by decide), if_neg (show ¬ nI 9 = (1 : Int32) by decide), if_neg (show ¬ nI 9 = (2 : Int32) by decide), if_neg (show ¬ nI 9 = (3 : Int32) by decide), if_neg (show ¬ nI 9 = (4 : Int32) by decide), if_neg (show ¬ nI 9 = (5 : Int32) by decide), if_neg (show ¬ nI 9 = (6 : Int32) by decide), if_neg (show ¬ nI 9 = (7 : Int32) by decide), if_neg (show ¬ nI 9 = (8 : Int32) by decide), if_pos (show nI 9 = (9 : Int32) from rfl), p4]; exact ⟨_, _, rfl, hR, Or.inr ⟨rfl, h00⟩⟩
      · rw [if_neg (show ¬ nI 10 = (0 : Int32) by decide), if_neg (show ¬ nI 10 = (1 : Int32) by decide), if_neg (show ¬ nI 10 = (2 : Int32) by decide), if_neg (show ¬ nI 10 = (3 : Int32) by decide), if_neg (show ¬ nI 10 = (4 : Int32) by decide), if_neg (show ¬ nI 10 = (5 : Int32) by decide), if_neg (show ¬ nI 10 = (6 : Int32) by decide), if_neg (show ¬ nI 10 = (7 : Int32) by decide), if_neg (show ¬ nI 10 = (8 : Int32) by decide), if_neg (show ¬ nI 10 = (9 : Int32) by decide), if_pos (show nI 10 = (10 : Int32) from rfl), if_neg (show ¬ nI 10 = (0 : Int32) by decide), if_neg (show ¬ nI 10 = (1 : Int32) by decide), if_neg (show ¬ nI 10 = (2 : Int32) by decide), if_neg (show ¬ nI 10 = (3 : Int32) by decide), if_neg (show ¬ nI 10 = (4 : Int32) by decide), if_neg (show ¬ nI 10 = (5 : Int32) by decide), if_neg (show ¬ nI 10 = (6 : Int32) by decide), if_neg (show ¬ nI 10 = (7 : Int32) by decide), if_neg (show ¬ nI 10 = (8 : Int32) by decide), if_neg (show ¬ nI 10 = (9 : Int32) by decide), p5]; exact ⟨_, _, rfl, hR, Or.inr ⟨rfl, h00⟩⟩
def zr_s (u : St) (c n : Nat) : St := fun j => if j = c then (fun k => if k < n then 0 else u c k) else u j
theorem clr_go (u : St) : ∀ (i n : Nat), i ≤ 34 → 34 - i < n → f_R_clear_b2 n (nI i) (zr_s u 4 i) = some (f_R_dropLoad (zr_s u 4 34)) := by
  intro i n
  induction n generalizing i with
  | zero => intro h1 h2; omega
  | succ n ih =>
    intro h1 h2
    rw [f_R_clear_b2_s]
    by_cases h : i = 34
    · subst h
      rw [if_pos (show (34 : Int32) ≤ nI 34 by decide)]
      rfl
    · rw [if_neg (show ¬ (34 : Int32) ≤ nI i from nI_ge (a := i) (b := 34) (by omega) (by omega)), inb_nI (by omega) (by omega), if_pos rfl, my_cln (by omega), nI_1]
      have e : sU (zr_s u 4 i) 4 i 0 = zr_s u 4 (i + 1) := by
        funext j k
        simp only [sU_at, zr_s]
        by_cases e1 : j = 4
        · simp only [e1, reduceIte]
          by_cases e2 : k = i
          · simp [e2]
          · by_cases e3 : k < i
            · have : k < i + 1 := by omega
              simp [e2, e3, this]
            · have : ¬ k < i + 1 := by omega
              simp [e2, e3, this]
        · simp [e1]
      rw [e]
      exact ih (i + 1) (by omega) (by omega)
theorem zr_0 (u : St) (c : Nat) : zr_s u c 0 = u := by
  funext j k
  unfold zr_s
  by_cases e : j = c
  · simp [e]
  · simp [e]
theorem clr_eq (u : St) : f_R_clear u = some (f_R_dropLoad (zr_s u 4 34)) := by
  have := clr_go u 0 fuel (by omega) (by unfold fuel; omega)
  rw [zr_0] at this
  exact this
theorem rst_go (u : St) : ∀ (i n : Nat), i ≤ 34 → 34 - i < n → f_D_reset_b7 n (nI i) (zr_s u 2 i) = f_D_reset_b7 1 (34 : Int32) (zr_s u 2 34) := by
  intro i n
  induction n generalizing i with
  | zero => intro h1 h2; omega
  | succ n ih =>
    intro h1 h2
    by_cases h : i = 34
    · subst h
      rw [f_D_reset_b7_s, f_D_reset_b7_s]
      rw [if_pos (show (34 : Int32) ≤ nI 34 by decide), if_pos (show (34 : Int32) ≤ (34 : Int32) by decide)]
    · rw [f_D_reset_b7_s]
      rw [if_neg (show ¬ (34 : Int32) ≤ nI i from nI_ge (a := i) (b := 34) (by omega) (by omega)), inb_nI (by omega) (by omega), if_pos rfl, my_cln (by omega), nI_1]
      have e : sU (zr_s u 2 i) 2 i 0 = zr_s u 2 (i + 1) := by
        funext j k
        simp only [sU_at, zr_s]
        by_cases e1 : j = 2
        · simp only [e1, reduceIte]
          by_cases e2 : k = i
          · simp [e2]
          · by_cases e3 : k < i
            · have : k < i + 1 := by omega
              simp [e2, e3, this]
            · have : ¬ k < i + 1 := by omega
              simp [e2, e3, this]
        · simp [e1]
      rw [e]
      exact ih (i + 1) (by omega) (by omega)
theorem e_reset (a b : St) (h : Rel a b) : ∃ a' b', f_S_reset a = some a' ∧ f_D_reset b = some b' ∧ Rel a' b' := by
  have h1 := rst_go (sU b 0 0 0) 0 fuel (by omega) (by unfold fuel; omega)
  rw [zr_0] at h1
  have h2 : f_D_reset b = f_D_reset_b7 1 (34 : Int32) (zr_s (sU b 0 0 0) 2 34) := h1
  rw [h2, f_D_reset_b7_s, if_pos (show (34 : Int32) ≤ (34 : Int32) by decide)]
  unfold f_S_reset
  rw [clr_eq]
  refine ⟨_, _, rfl, rfl, ?_⟩
  have m1' : (-1 : Int32).toInt < 32 := by decide
  have s1 : sm 64 (0 : Int32) := sm0
  have s2 : sm 4 (0 : Int32) := ⟨0, by omega, rfl⟩
  have s3 : co 0 0 0 = 0 := by decide
  have hR := rel_th a b 0 h
  generalize sU b 0 0 0 = B at *
  obtain ⟨⟨p1, p2, p3, p4, p5⟩, ⟨r1, r2⟩, ⟨w1, w2, w3⟩, ⟨c1, c2, c3, c4⟩, ⟨d1, d2, d3⟩, m1, m2⟩ := hR
  simp only [bnv, f_C_clear, f_S_continueAt, f_R_dropLoad, f_R_holdLoad]
  simp only [Rel, sU_at, sU_fn]
  simp [*, zr_s]
  exact ⟨fun j hj => by rw [if_pos hj, if_pos hj], m1⟩
