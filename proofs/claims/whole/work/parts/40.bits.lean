/-! ===== Int32 by its bits: bt x i ===== -/
def bt (x : Int32) (i : Nat) : Bool := x.toBitVec.getLsbD i
theorem b_ext {x y : Int32} (h : ∀ i, i < 32 → bt x i = bt y i) : x = y := Int32.toBitVec_inj.mp (BitVec.eq_of_getLsbD_eq (fun i hi => h i hi))
theorem b_or (x y : Int32) (i : Nat) : bt (x ||| y) i = (bt x i || bt y i) := by unfold bt; rw [Int32.toBitVec_or, BitVec.getLsbD_or]
theorem b_and (x y : Int32) (i : Nat) : bt (x &&& y) i = (bt x i && bt y i) := by unfold bt; rw [Int32.toBitVec_and, BitVec.getLsbD_and]
theorem b_xor (x y : Int32) (i : Nat) : bt (x ^^^ y) i = (bt x i ^^ bt y i) := by unfold bt; rw [Int32.toBitVec_xor, BitVec.getLsbD_xor]
theorem b_big {x : Int32} {i : Nat} (h : 32 ≤ i) : bt x i = false := BitVec.getLsbD_of_ge _ _ h
theorem b_255 (i : Nat) : bt 255 i = decide (i < 8) := by
  rcases Nat.lt_or_ge i 32 with h | h
  · exact (by decide +kernel : ∀ i, i < 32 → bt 255 i = decide (i < 8)) i h
  · rw [b_big h, decide_eq_false (by omega)]
theorem b_65535 (i : Nat) : bt 65535 i = decide (i < 16) := by
  rcases Nat.lt_or_ge i 32 with h | h
  · exact (by decide +kernel : ∀ i, i < 32 → bt 65535 i = decide (i < 16)) i h
  · rw [b_big h, decide_eq_false (by omega)]
theorem b_m1 : ∀ i, i < 32 → bt (-1) i = true := by decide +kernel
theorem b_0 (i : Nat) : bt 0 i = false := BitVec.getLsbD_zero
theorem s_l : ∀ n, n < 32 → ((nI n &&& 31).toBitVec.smod 32).toNat = n := by decide +kernel
theorem s_u : ∀ n, n < 32 → (((nI n).toUInt32 &&& Int32.toUInt32 31).toBitVec % 32).toNat = n := by decide +kernel
theorem b_shl (n : Nat) (hn : n < 32) (x : Int32) {i : Nat} (hi : i < 32) : bt (x <<< (nI n &&& 31)) i = (decide (n ≤ i) && bt x (i - n)) := by
  unfold bt
  rw [Int32.toBitVec_shiftLeft]
  show (x.toBitVec <<< ((nI n &&& 31).toBitVec.smod 32).toNat).getLsbD i = _
  rw [s_l n hn, BitVec.getLsbD_shiftLeft]
  rcases Nat.lt_or_ge i n with h | h
  · simp [h, Nat.not_le.mpr h]
  · simp [hi, h, Nat.not_lt.mpr h]
theorem b_ushr (n : Nat) (hn : n < 32) (x : Int32) (i : Nat) : bt ((x.toUInt32 >>> ((nI n).toUInt32 &&& Int32.toUInt32 31)).toInt32) i = bt x (n + i) := by
  show (x.toUInt32 >>> ((nI n).toUInt32 &&& Int32.toUInt32 31)).toBitVec.getLsbD i = x.toUInt32.toBitVec.getLsbD (n + i)
  rw [UInt32.toBitVec_shiftRight]
  show (x.toUInt32.toBitVec >>> (((nI n).toUInt32 &&& Int32.toUInt32 31).toBitVec % 32).toNat).getLsbD i = _
  rw [s_u n hn, BitVec.getLsbD_ushiftRight]
theorem b_sshr (n : Nat) (hn : n < 32) (x : Int32) {i : Nat} (hi : i < 32) : bt (x >>> (nI n &&& 31)) i = if n + i < 32 then bt x (n + i) else bt x 31 := by
  unfold bt
  rw [Int32.toBitVec_shiftRight]
  show (x.toBitVec.sshiftRight ((nI n &&& 31).toBitVec.smod 32).toNat).getLsbD i = _
  rw [s_l n hn, BitVec.getLsbD_sshiftRight, BitVec.msb_eq_getLsbD_last]
  simp [hi]
theorem b_shl8 (x : Int32) {i : Nat} (hi : i < 32) : bt (x <<< ((8 : Int32) &&& 31)) i = (decide (8 ≤ i) && bt x (i - 8)) := b_shl 8 (by omega) x hi
theorem b_shl16 (x : Int32) {i : Nat} (hi : i < 32) : bt (x <<< ((16 : Int32) &&& 31)) i = (decide (16 ≤ i) && bt x (i - 16)) := b_shl 16 (by omega) x hi
theorem b_shl24 (x : Int32) {i : Nat} (hi : i < 32) : bt (x <<< ((24 : Int32) &&& 31)) i = (decide (24 ≤ i) && bt x (i - 24)) := b_shl 24 (by omega) x hi
theorem b_sshr8 (x : Int32) {i : Nat} (hi : i < 32) : bt (x >>> ((8 : Int32) &&& 31)) i = if 8 + i < 32 then bt x (8 + i) else bt x 31 := b_sshr 8 (by omega) x hi
/-! bits: the family bt out of kit/laws/BITS.to-paste stands ahead of these rows -/
theorem b_i8 (x : Int32) {i : Nat} (hi : i < 32) : bt x.toInt8.toInt32 i = if i < 8 then bt x i else bt x 7 := by
  unfold bt
  rw [Int8.toBitVec_toInt32, Int32.toBitVec_toInt8, BitVec.getLsbD_signExtend]
  by_cases h : i < 8
  · simp [hi, h, BitVec.getElem_signExtend]
  · simp [hi, h, BitVec.msb_eq_getLsbD_last, BitVec.getElem_signExtend]
theorem b_i16 (x : Int32) {i : Nat} (hi : i < 32) : bt x.toInt16.toInt32 i = if i < 16 then bt x i else bt x 15 := by
  unfold bt
  rw [Int16.toBitVec_toInt32, Int32.toBitVec_toInt16, BitVec.getLsbD_signExtend]
  by_cases h : i < 16
  · simp [hi, h, BitVec.getElem_signExtend]
  · simp [hi, h, BitVec.msb_eq_getLsbD_last, BitVec.getElem_signExtend]
theorem b_ush (n : Nat) (hn : n < 32) (x : Int32) (i : Nat) : bt (ush x (nI n)) i = bt x (n + i) := b_ushr n hn x i
def jn (v b : Int32) : Int32 := (v <<< ((8 : Int32) &&& 31)) ||| b
def isb (b : Int32) : Prop := ∀ i, 8 ≤ i → bt b i = false
def w4 (f : Nat → Int32) (p : Nat) : Int32 := jn (jn (jn (jn 0 (f p)) (f (p + 1))) (f (p + 2))) (f (p + 3))
theorem bt_jn (v b : Int32) {i : Nat} (hi : i < 32) : bt (jn v b) i = ((decide (8 ≤ i) && bt v (i - 8)) || bt b i) := by
  unfold jn
  rw [b_or, b_shl8 _ hi]
theorem bt_w4 {f : Nat → Int32} (hb : ∀ i, isb (f i)) (p : Nat) {i : Nat} (hi : i < 32) :
    bt (w4 f p) i = if i < 8 then bt (f (p + 3)) i else if i < 16 then bt (f (p + 2)) (i - 8) else if i < 24 then bt (f (p + 1)) (i - 16) else bt (f p) (i - 24) := by
  unfold w4
  rw [bt_jn _ _ hi, bt_jn _ _ (by omega), bt_jn _ _ (by omega), bt_jn _ _ (by omega), b_0]
  by_cases h1 : i < 8
  · simp [h1, Nat.not_le.mpr h1]
  have e1 : 8 ≤ i := by omega
  rw [hb (p + 3) i e1]
  by_cases h2 : i < 16
  · have e2 : ¬ 8 ≤ i - 8 := by omega
    simp [h1, h2, e1, e2]
  have e2 : 8 ≤ i - 8 := by omega
  rw [hb (p + 2) (i - 8) e2]
  by_cases h3 : i < 24
  · have e3 : ¬ 8 ≤ i - 8 - 8 := by omega
    have e4 : i - 8 - 8 = i - 16 := by omega
    have e6 : ¬ 8 ≤ i - 16 := by omega
    simp [h1, h2, h3, e1, e2, e4, e6]
  have e3 : 8 ≤ i - 8 - 8 := by omega
  rw [hb (p + 1) (i - 8 - 8) e3]
  have e5 : i - 8 - 8 - 8 = i - 24 := by omega
  simp [h1, h2, h3, e1, e2, e3, e5]
theorem isb_and (x : Int32) : isb (x &&& 255) := by
  intro i h
  rw [b_and, b_255, decide_eq_false (by omega), Bool.and_false]
theorem isb_0 : isb 0 := fun i _ => b_0 i
