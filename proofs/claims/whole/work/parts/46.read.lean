/-! the parts of an instruction, alike -/
theorem num_eq (w : Int32) (n : Nat) (hn : n ≤ 27) : (ush w (nI n)) &&& (31 : Int32) = (w >>> ((nI n) &&& 31)) &&& (31 : Int32) := by
  refine b_ext (fun i hi => ?_)
  rw [b_and, b_and, b_ush n (by omega), b_sshr n (by omega) w hi]
  have e : bt (31 : Int32) i = decide (i < 5) := (by decide +kernel : ∀ i, i < 32 → bt (31 : Int32) i = decide (i < 5)) i hi
  rw [e]
  by_cases h : i < 5
  · have h1 : n + i < 32 := by omega
    simp [h, h1]
  · simp [h]
theorem nS_eq (w : Int32) : f_S_numberS w = (w >>> ((21 : Int32) &&& 31)) &&& (31 : Int32) := num_eq w 21 (by omega)
theorem nT_eq (w : Int32) : f_S_numberT w = (w >>> ((16 : Int32) &&& 31)) &&& (31 : Int32) := num_eq w 16 (by omega)
theorem nD_eq (w : Int32) : f_S_numberD w = (w >>> ((11 : Int32) &&& 31)) &&& (31 : Int32) := num_eq w 11 (by omega)
theorem nA_eq (w : Int32) : f_S_numberA w = (w >>> ((6 : Int32) &&& 31)) &&& (31 : Int32) := num_eq w 6 (by omega)
theorem b_shl16' (x : Int32) {i : Nat} (hi : i < 32) : bt (x <<< ((16 : Int32) &&& 31)) i = (decide (16 ≤ i) && bt x (i - 16)) := b_shl 16 (by omega) x hi
theorem b_sshr16 (x : Int32) {i : Nat} (hi : i < 32) : bt (x >>> ((16 : Int32) &&& 31)) i = if 16 + i < 32 then bt x (16 + i) else bt x 31 := b_sshr 16 (by omega) x hi
theorem nI_num (w : Int32) : f_S_numberI w = (w <<< ((16 : Int32) &&& 31)) >>> ((16 : Int32) &&& 31) := by
  unfold f_S_numberI
  refine b_ext (fun i hi => ?_)
  rw [b_i16 _ hi, b_sshr16 _ hi]
  by_cases h : i < 16
  · have h1 : 16 + i < 32 := by omega
    rw [if_pos h, if_pos h1, b_shl16' _ h1]
    simp
  · have h1 : ¬ 16 + i < 32 := by omega
    rw [if_neg h, if_neg h1, b_shl16' _ (by omega)]
    simp
theorem and31_nI (x : Int32) : ∃ j, j < 32 ∧ x &&& (31 : Int32) = nI j := by
  obtain ⟨j, hj, e⟩ := pk_andE x (m := (31 : Int32)) 5 (by decide)
  exact ⟨j, hj, e⟩
theorem val_eq (a b : St) (h : Rel a b) (x : Int32) : f_R_valueOf (x &&& (31 : Int32)) a = b 2 (x &&& (31 : Int32)).toNatClampNeg := by
  obtain ⟨j, hj, e⟩ := and31_nI x
  rw [e]
  unfold f_R_valueOf
  rw [if_neg (nI_pos (by omega)), if_neg (show ¬ (34 : Int32) ≤ nI j from nI_ge (a := j) (b := 34) (by omega) (by omega)), my_cln (by omega)]
  exact h.2.1.1 j (by omega)
theorem valS_eq (a b : St) (h : Rel a b) (w : Int32) : f_S_valueOfS w a = b 2 ((w >>> ((21 : Int32) &&& 31)) &&& (31 : Int32)).toNatClampNeg := by
  unfold f_S_valueOfS
  rw [nS_eq, val_eq a b h]
theorem valT_eq (a b : St) (h : Rel a b) (w : Int32) : f_S_valueOfT w a = b 2 ((w >>> ((16 : Int32) &&& 31)) &&& (31 : Int32)).toNatClampNeg := by
  unfold f_S_valueOfT
  rw [nT_eq, val_eq a b h]
def rd (b : St) (w : Int32) : St := sU (sU (sU (sU (sU (sU (sU (sU (sU b 0 17 w) 0 18 (ush w (26 : Int32))) 0 19 (b 2 ((w >>> ((21 : Int32) &&& 31)) &&& (31 : Int32)).toNatClampNeg)) 0 20 (b 2 ((w >>> ((16 : Int32) &&& 31)) &&& (31 : Int32)).toNatClampNeg)) 0 21 (w &&& (63 : Int32))) 0 22 (-1 : Int32)) 0 24 (-1 : Int32)) 0 25 (0 : Int32)) 0 26 ((b 0 4) + (4 : Int32))
theorem e_read (b : St) (p : Nat) (hp : p + 4 ≤ 4096) (h : (b 0 3) &&& (536870911 : Int32) = nI p) : f_D_read b = some (rd b (w4 (b 1) p)) := by
  unfold f_D_read
  rw [h, ld_4 b p hp]
  simp only [obv, bnv, rd, sU_at, sU_fn, reduceIte, Nat.reduceEqDiff]
theorem word_eq (a b : St) (h : Rel a b) (p : Nat) (hp : p + 4 ≤ 4096) (h4 : p % 4 = 0) : f_M_wordAround (nI p) a = w4 (b 1) p := by
  unfold f_M_wordAround f_M_indexOf
  have e1 : nI p >>> ((2 : Int32) &&& 31) = nI (p / 4) := pk_shrN (by omega) _ 2 (by decide)
  have e2 : nI (p / 4) &&& (1023 : Int32) = nI (p / 4 % 1024) := pk_andN (by omega) 10 (by decide)
  rw [e1, e2, Nat.mod_eq_of_lt (by omega), my_cln (by omega)]
  rw [h.2.2.2.2.2.1 (p / 4) (by omega)]
  rw [show 4 * (p / 4) = p by omega]
theorem ord_nI (w : Int32) : ∃ n, n < 64 ∧ ush w (26 : Int32) = nI n := by
  refine ⟨uX w / 2 ^ 26, ?_, ?_⟩
  · have := w.toBitVec.isLt
    unfold uX
    omega
  · apply Int32.toBitVec_inj.mp
    apply BitVec.eq_of_toNat_eq
    have h1 := pk_ushr w (26 : Int32) 26 (by decide)
    have h2 : (nI (uX w / 2 ^ 26)).toBitVec.toNat = uX w / 2 ^ 26 := pk_tn (by
      have := w.toBitVec.isLt
      unfold uX
      omega)
    rw [h2]
    exact h1
theorem k_nI (w : Int32) : ∃ n, n < 64 ∧ w &&& (63 : Int32) = nI n := by
  obtain ⟨j, hj, e⟩ := pk_andE w (m := (63 : Int32)) 6 (by decide)
  exact ⟨j, hj, e⟩
def bg (a : St) : St := sU (sU (sU (sU a 6 0 (-1 : Int32)) 6 2 (0 : Int32)) 6 3 (0 : Int32)) 6 4 ((a 0 5) + (4 : Int32))
theorem bg_eq (a : St) : f_O_begin ((a 0 5) + (4 : Int32)) a = bg a := rfl
theorem rel_bg (a b : St) (w : Int32) (h : Rel a b) : Rel (bg a) (rd b w) := by
  unfold bg rd
  simp only [rel_out]
  rw [rel_scr _ _ _ _ (by decide), rel_scr _ _ _ _ (by decide), rel_scr _ _ _ _ (by decide), rel_scr _ _ _ _ (by decide), rel_scr _ _ _ _ (by decide), rel_scr _ _ _ _ (by decide), rel_scr _ _ _ _ (by decide), rel_scr _ _ _ _ (by decide), rel_scr _ _ _ _ (by decide)]
  exact h
/-! is it a branch: class and reference -/
theorem isBS_eq (w : Int32) : f_S_isBranchBySign w = if ((w >>> ((16 : Int32) &&& 31)) &&& (31 : Int32)) < (2 : Int32) then 1 else if ((w >>> ((16 : Int32) &&& 31)) &&& (31 : Int32)) = (16 : Int32) then 1 else if ((w >>> ((16 : Int32) &&& 31)) &&& (31 : Int32)) = (17 : Int32) then 1 else 0 := by
  unfold f_S_isBranchBySign
  rw [nT_eq]
  obtain ⟨j, hj, e⟩ := and31_nI (w >>> ((16 : Int32) &&& 31))
  rw [e]
  have : ∀ j, j < 32 → (if nI j = (0 : Int32) then (1 : Int32) else if nI j = (1 : Int32) then (1 : Int32) else if nI j = (16 : Int32) then (1 : Int32) else if nI j = (17 : Int32) then (1 : Int32) else (0 : Int32)) = if nI j < (2 : Int32) then (1 : Int32) else if nI j = (16 : Int32) then 1 else if nI j = (17 : Int32) then 1 else 0 := by decide +kernel
  exact this j hj
theorem isBr_eq (w : Int32) : f_S_isBranch w = isB w (ush w (26 : Int32)) (w &&& (63 : Int32)) := by
  unfold isB f_S_isBranch f_D_isBranch f_D_isBranch_b36 f_D_isBranch_b61 f_S_orderOf f_S_numberK
  rw [isBS_eq]
  obtain ⟨n, hn, e⟩ := ord_nI w
  have h1 : ∀ n, n < 64 → ¬ nI n = (0 : Int32) → ¬ nI n = (1 : Int32) → (if (8 : Int32) ≤ nI n then (0 : Int32) else 1) = (if nI n < (2 : Int32) then (0 : Int32) else if (7 : Int32) < nI n then (0 : Int32) else 1) := by decide +kernel
  simp only [reduceIte, Nat.reduceEqDiff]
  rw [e]
  by_cases h0 : nI n = (0 : Int32)
  · simp only [h0, reduceIte]
    rfl
  · by_cases h2 : nI n = (1 : Int32)
    · simp only [h2, reduceIte]
      rfl
    · simp only [h0, h2, reduceIte]
      exact h1 n hn h0 h2
