/-! addresses of data, words, stores -/
theorem x_nI (x : Int32) : x = nI (uX x) := by
  apply Int32.toBitVec_inj.mp
  apply BitVec.eq_of_toNat_eq
  have h := x.toBitVec.isLt
  show x.toBitVec.toNat = (nI x.toBitVec.toNat).toBitVec.toNat
  rw [pk_tn h]
theorem bt_nI (m : Nat) {i : Nat} (hi : i < 32) : bt (nI m) i = m.testBit i := by
  show (BitVec.ofNat 32 m).getLsbD i = _
  rw [BitVec.getLsbD_ofNat]
  simp [hi]
theorem n4 (m : Nat) : nI m &&& (-4 : Int32) = nI (4 * (m / 4)) := by
  refine b_ext (fun i hi => ?_)
  have e : bt (-4 : Int32) i = decide (2 ≤ i) := (by decide +kernel : ∀ i, i < 32 → bt (-4 : Int32) i = decide (2 ≤ i)) i hi
  rw [b_and, bt_nI _ hi, bt_nI _ hi, e]
  have e2 : 4 * (m / 4) = (m >>> 2) <<< 2 := by
    rw [Nat.shiftRight_eq_div_pow, Nat.shiftLeft_eq]
    omega
  rw [e2, Nat.testBit_shiftLeft, Nat.testBit_shiftRight]
  by_cases h : 2 ≤ i
  · have : 2 + (i - 2) = i := by omega
    simp [h, this]
  · simp [h]
theorem uX_nI {m : Nat} (h : m < 4294967296) : uX (nI m) = m := pk_tn h
theorem uX_lt (x : Int32) : uX x < 4294967296 := x.toBitVec.isLt
theorem uX_n4 (x : Int32) : uX (x &&& (-4 : Int32)) = 4 * (uX x / 4) := by
  have h := uX_lt x
  have e : x &&& (-4 : Int32) = nI (4 * (uX x / 4)) := by
    rw [← n4, ← x_nI]
  rw [e, uX_nI (by omega)]
theorem al1 (x : Int32) : x &&& ((1 : Int32) - 1) = 0 := by
  refine b_ext (fun i hi => ?_)
  have e : (1 : Int32) - 1 = 0 := by decide
  rw [e, b_and, b_0, Bool.and_false]
theorem al2 (x : Int32) : x &&& ((2 : Int32) - 1) = 0 ↔ uX x % 2 = 0 := by
  have e : (2 : Int32) - 1 = 1 := by decide
  have e2 : x &&& (1 : Int32) = nI (uX x % 2) := pk_and x 1 (by decide)
  rw [e, e2, ← nI_0, nI_eq (by omega) (by omega)]
theorem al4 (x : Int32) : x &&& ((4 : Int32) - 1) = 0 ↔ uX x % 4 = 0 := by
  have e : (4 : Int32) - 1 = 3 := by decide
  rw [e, and3_0]
def adt (x n y mv cd : Int32) (u : St) : Int32 × St := if (x &&& (n - (1 : Int32))) = (0 : Int32) then if (0 : Int32) ≤ x then (if (zb (f_D_inMemory y mv)) = (0 : Int32) then ((7 : Int32), u) else ((0 : Int32), u)) else if (zb (f_D_user u)) = (0 : Int32) then (if (zb (f_D_inMemory y mv)) = (0 : Int32) then ((7 : Int32), u) else ((0 : Int32), u)) else (cd, sU u 0 11 x) else (cd, sU u 0 11 x)
theorem e_data (a b : St) (h : Rel a b) (x n y mv cd : Int32) (hc : ftl cd) (hm : x &&& (n - (1 : Int32)) = 0 → (zb (f_S_isInMemory (x &&& (536870911 : Int32))) = 0 ↔ zb (f_D_inMemory y mv) = 0)) :
    (f_S_faultOfData x n cd a = ((-1 : Int32), a) ∧ adt x n y mv cd b = ((0 : Int32), b) ∧ x &&& (n - (1 : Int32)) = 0 ∧ uX x % 536870912 < 4096) ∨
    ∃ r a' b', ftl r ∧ f_S_faultOfData x n cd a = (r, a') ∧ adt x n y mv cd b = (r, b') ∧ Rel a' b' := by
  have f7 : ftl 7 := ⟨sm7, by decide, by decide, by decide, by decide⟩
  have hB := rel_bad a b x h
  have c1 := h.2.2.2.1.1
  unfold f_S_faultOfData adt f_S_faultOfData_b19
  by_cases h1 : x &&& (n - (1 : Int32)) = 0
  · rw [if_pos h1, if_pos h1]
    have hm := hm h1
    by_cases h2 : (0 : Int32) ≤ x ∨ zb (f_D_user b) = 0
    · rw [if_pos ((forb_eq a b _ c1).mpr h2)]
      have e5 : (if (0 : Int32) ≤ x then (if (zb (f_D_inMemory y mv)) = (0 : Int32) then ((7 : Int32), b) else ((0 : Int32), b)) else if (zb (f_D_user b)) = (0 : Int32) then (if (zb (f_D_inMemory y mv)) = (0 : Int32) then ((7 : Int32), b) else ((0 : Int32), b)) else (cd, sU b 0 11 x)) = (if (zb (f_D_inMemory y mv)) = (0 : Int32) then ((7 : Int32), b) else ((0 : Int32), b)) := by
        by_cases h3 : (0 : Int32) ≤ x
        · rw [if_pos h3]
        · rw [if_neg h3, if_pos (h2.resolve_left h3)]
      rw [e5]
      by_cases h5 : zb (f_S_isInMemory (x &&& (536870911 : Int32))) = 0
      · right
        rw [if_pos h5, if_pos (hm.mp h5)]
        exact ⟨_, _, _, f7, rfl, rfl, h⟩
      · left
        rw [if_neg h5, if_neg (fun z => h5 (hm.mpr z))]
        refine ⟨rfl, rfl, h1, ?_⟩
        rw [isMem] at h5
        by_cases h6 : uX x % 536870912 < 4096
        · exact h6
        · rw [if_neg h6] at h5
          exact absurd rfl h5
    · right
      rw [if_neg (fun z => h2 ((forb_eq a b _ c1).mp z)), if_neg (fun z => h2 (Or.inl z)), if_neg (fun z => h2 (Or.inr z))]
      exact ⟨_, _, _, hc, rfl, rfl, hB⟩
  · right
    rw [if_neg h1, if_neg h1]
    exact ⟨_, _, _, hc, rfl, rfl, hB⟩
theorem zif (p : Prop) [Decidable p] : zb (if p then (1 : Int32) else 0) = 0 ↔ ¬ p := by
  by_cases h : p
  · rw [if_pos h]; simp (decide := true) [h]
  · rw [if_neg h]; simp (decide := true) [h]
theorem hm1 (x : Int32) : x &&& ((1 : Int32) - (1 : Int32)) = 0 → (zb (f_S_isInMemory (x &&& (536870911 : Int32))) = 0 ↔ zb (f_D_inMemory x (1 : Int32)) = 0) := by
  intro _
  have e := inMem x 1 (by omega)
  rw [isMem, show (1 : Int32) = nI 1 from rfl, e]
  rw [← show (1 : Int32) = nI 1 from rfl, zif, zif]
  omega
theorem hm2 (x : Int32) : x &&& ((2 : Int32) - (1 : Int32)) = 0 → (zb (f_S_isInMemory (x &&& (536870911 : Int32))) = 0 ↔ zb (f_D_inMemory x (2 : Int32)) = 0) := by
  intro h
  have h2 := (al2 x).mp h
  have e := inMem x 2 (by omega)
  rw [isMem, show (2 : Int32) = nI 2 from rfl, e, zif, zif]
  omega
theorem hm4 (x : Int32) : x &&& ((4 : Int32) - (1 : Int32)) = 0 → (zb (f_S_isInMemory (x &&& (536870911 : Int32))) = 0 ↔ zb (f_D_inMemory x (4 : Int32)) = 0) := by
  intro h
  have h2 := (al4 x).mp h
  have e := inMem x 4 (by omega)
  rw [isMem, show (4 : Int32) = nI 4 from rfl, e, zif, zif]
  omega
theorem hmp (x : Int32) : x &&& ((1 : Int32) - (1 : Int32)) = 0 → (zb (f_S_isInMemory (x &&& (536870911 : Int32))) = 0 ↔ zb (f_D_inMemory (x &&& (-4 : Int32)) (4 : Int32)) = 0) := by
  intro _
  have hx := uX_lt x
  have e : f_D_inMemory (x &&& (-4 : Int32)) (4 : Int32) = _ := inMem (x &&& (-4 : Int32)) 4 (by omega)
  rw [isMem, e, zif, zif, uX_n4]
  omega
theorem idx_eq (p : Nat) (hp : p < 4096) : (f_M_indexOf (nI p)).toNatClampNeg = p / 4 := by
  unfold f_M_indexOf
  have e1 : nI p >>> ((2 : Int32) &&& 31) = nI (p / 4) := pk_shrN (by omega) _ 2 (by decide)
  have e2 : nI (p / 4) &&& (1023 : Int32) = nI (p / 4 % 1024) := pk_andN (by omega) 10 (by decide)
  rw [e1, e2, Nat.mod_eq_of_lt (by omega), my_cln (by omega)]
theorem word_any (a b : St) (h : Rel a b) (p : Nat) (hp : p < 4096) : f_M_wordAround (nI p) a = w4 (b 1) (4 * (p / 4)) := by
  unfold f_M_wordAround
  rw [idx_eq p hp]
  exact h.2.2.2.2.2.1 (p / 4) (by omega)
def lt_ (b : St) (w : Int32) : Int32 := if b 0 13 = qT w then b 0 14 else b 2 (qT w).toNatClampNeg
theorem lat_eq (a b : St) (h : Rel a b) (w : Int32) : f_R_latestOf (qT w) (bg a) = lt_ b w := by
  unfold f_R_latestOf lt_
  have hR := rel_bg a b w h
  rw [hR.2.2.1.1, hR.2.2.1.2.1, rd_lo b w 13 (by decide), rd_lo b w 14 (by decide), val_eq _ _ hR, rd_j b w 2 (by decide)]
theorem st_go (p k : Nat) (v : Int32) (hk : p + k ≤ 4096) : ∀ (i n : Nat) (u : St), i ≤ k → k - i < n → f_D_store_b3 n (nI p) (nI k) v (nI i) u = some ((List.range' i (k - i)).foldl (fun u j => sU u 1 (p + j) ((v >>> (((8 : Int32) * ((nI k - (1 : Int32)) - nI j)) &&& 31)) &&& (255 : Int32))) u) := by
  intro i n
  induction n generalizing i with
  | zero => intro u h1 h2; omega
  | succ n ih =>
    intro u h1 h2
    rw [f_D_store_b3_s]
    by_cases h : i = k
    · subst h
      rw [if_pos (nI_le (Nat.le_refl _) (by omega))]
      simp
    · have h3 : i < k := by omega
      rw [if_neg (nI_ge h3 (by omega))]
      rw [nI_add, inb_nI (by omega) (by omega), if_pos rfl, my_cln (by omega), nI_1]
      have e : k - i = (k - (i + 1)) + 1 := by omega
      rw [e, List.range'_succ, List.foldl_cons]
      exact ih (i + 1) _ (by omega) (by omega)
theorem st_1 (p : Nat) (v : Int32) (u : St) (hp : p + 1 ≤ 4096) : f_D_store (nI p) (1 : Int32) v u = some (sU u 1 p (by0 v)) := by
  unfold f_D_store
  exact st_go p 1 v hp 0 fuel u (by omega) (by unfold fuel; omega)
theorem st_2 (p : Nat) (v : Int32) (u : St) (hp : p + 2 ≤ 4096) : f_D_store (nI p) (2 : Int32) v u = some (sU (sU u 1 p (by8 v)) 1 (p + 1) (by0 v)) := by
  unfold f_D_store
  exact st_go p 2 v hp 0 fuel u (by omega) (by unfold fuel; omega)
theorem st_3 (p : Nat) (v : Int32) (u : St) (hp : p + 3 ≤ 4096) : f_D_store (nI p) (3 : Int32) v u = some (sU (sU (sU u 1 p (by16 v)) 1 (p + 1) (by8 v)) 1 (p + 2) (by0 v)) := by
  unfold f_D_store
  exact st_go p 3 v hp 0 fuel u (by omega) (by unfold fuel; omega)
theorem st_4 (p : Nat) (v : Int32) (u : St) (hp : p + 4 ≤ 4096) : f_D_store (nI p) (4 : Int32) v u = some (sU (sU (sU (sU u 1 p (by24 v)) 1 (p + 1) (by16 v)) 1 (p + 2) (by8 v)) 1 (p + 3) (by0 v)) := by
  unfold f_D_store
  exact st_go p 4 v hp 0 fuel u (by omega) (by unfold fuel; omega)
theorem rel_mem (a b b' : St) (h : Rel a b) (j : Nat) (V : Int32) (hb0 : b' 0 = b 0) (hb2 : b' 2 = b 2) (hV : V = w4 (b' 1) (4 * j)) (hk : ∀ i, i / 4 ≠ j → b' 1 i = b 1 i) (hi : ∀ i, isb (b' 1 i)) : Rel (sU a 2 j V) b' := by
  obtain ⟨⟨p1, p2, p3, p4, p5⟩, ⟨r1, r2⟩, ⟨w1, w2, w3⟩, ⟨c1, c2, c3, c4⟩, ⟨d1, d2, d3⟩, m1, m2⟩ := h
  simp only [Rel, sU_at, hb0, hb2]
  simp only [reduceIte, Nat.reduceEqDiff]
  refine ⟨⟨p1, p2, p3, p4, p5⟩, ⟨r1, r2⟩, ⟨w1, w2, w3⟩, ⟨c1, c2, c3, c4⟩, ⟨d1, d2, d3⟩, ?_, hi⟩
  intro z hz
  by_cases e : z = j
  · rw [if_pos e, e]; exact hV
  · rw [if_neg e, m1 z hz]
    unfold w4
    rw [hk (4 * z) (by omega), hk (4 * z + 1) (by omega), hk (4 * z + 2) (by omega), hk (4 * z + 3) (by omega)]
theorem fin_st (a b : St) (h : Rel a b) (w : Int32) (hn : zb (isB w (ush w (26 : Int32)) (w &&& (63 : Int32))) = 0) (j : Nat) (V : Int32) (b' : St) (hb0 : b' 0 = rd b w 0) (hb2 : b' 2 = rd b w 2) (hV : V = w4 (b' 1) (4 * j)) (hk : ∀ i, i / 4 ≠ j → b' 1 i = rd b w 1 i) (hi : ∀ i, isb (b' 1 i)) : Fin (sU (bg a) 2 j V) b' := by
  have b6 := bg_6 a
  refine fin_nop _ _ b w hn (rel_mem _ _ b' (rel_bg a b w h) j V hb0 hb2 hV hk hi) ?_ ?_ ?_ ?_ ?_
  · simp only [sU_at, reduceIte, Nat.reduceEqDiff, b6.1]
  · simp only [sU_at, reduceIte, Nat.reduceEqDiff, b6.2.1]
  · simp only [sU_at, reduceIte, Nat.reduceEqDiff, b6.2.2.1]
  · simp only [sU_at, reduceIte, Nat.reduceEqDiff, b6.2.2.2, rd_26, h.1.2.1]
  · intro q hq; rw [hb0]
