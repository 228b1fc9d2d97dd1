def w4b (c0 c1 c2 c3 : Int32) : Int32 := jn (jn (jn (jn 0 c0) c1) c2) c3
theorem w4_b (f : Nat → Int32) (p : Nat) : w4 f p = w4b (f p) (f (p + 1)) (f (p + 2)) (f (p + 3)) := rfl
theorem bt_w4b {c0 c1 c2 c3 : Int32} (h0 : isb c0) (h1 : isb c1) (h2 : isb c2) (h3 : isb c3) {i : Nat} (hi : i < 32) :
    bt (w4b c0 c1 c2 c3) i = if i < 8 then bt c3 i else if i < 16 then bt c2 (i - 8) else if i < 24 then bt c1 (i - 16) else bt c0 (i - 24) := by
  have hb : ∀ k, isb ((fun k : Nat => if k = 0 then c0 else if k = 1 then c1 else if k = 2 then c2 else c3) k) := by
    intro k
    by_cases e0 : k = 0
    · simp [e0, h0]
    · by_cases e1 : k = 1
      · simp [e1, h1]
      · by_cases e2 : k = 2
        · simp [e2, h2]
        · simp [e0, e1, e2, h3]
  exact bt_w4 hb 0 hi
theorem b_sl0 (x : Int32) {i : Nat} (hi : i < 32) : bt (x <<< ((0 : Int32) &&& 31)) i = bt x i := by rw [sb_shl0]
theorem b_sl8 (x : Int32) {i : Nat} (hi : i < 32) : bt (x <<< ((8 : Int32) &&& 31)) i = (decide (8 ≤ i) && bt x (i - 8)) := b_shl 8 (by omega) x hi
theorem b_sl16 (x : Int32) {i : Nat} (hi : i < 32) : bt (x <<< ((16 : Int32) &&& 31)) i = (decide (16 ≤ i) && bt x (i - 16)) := b_shl 16 (by omega) x hi
theorem b_sl24 (x : Int32) {i : Nat} (hi : i < 32) : bt (x <<< ((24 : Int32) &&& 31)) i = (decide (24 ≤ i) && bt x (i - 24)) := b_shl 24 (by omega) x hi
theorem b_sr0 (x : Int32) {i : Nat} (hi : i < 32) : bt (x >>> ((0 : Int32) &&& 31)) i = bt x i := by rw [sb_shr0]
theorem b_sr8 (x : Int32) {i : Nat} (hi : i < 32) : bt (x >>> ((8 : Int32) &&& 31)) i = if 8 + i < 32 then bt x (8 + i) else bt x 31 := b_sshr 8 (by omega) x hi
theorem b_sr16 (x : Int32) {i : Nat} (hi : i < 32) : bt (x >>> ((16 : Int32) &&& 31)) i = if 16 + i < 32 then bt x (16 + i) else bt x 31 := b_sshr 16 (by omega) x hi
theorem b_sr24 (x : Int32) {i : Nat} (hi : i < 32) : bt (x >>> ((24 : Int32) &&& 31)) i = if 24 + i < 32 then bt x (24 + i) else bt x 31 := b_sshr 24 (by omega) x hi
theorem b_us0 (x : Int32) (i : Nat) : bt (ush x (0 : Int32)) i = bt x i := by
  have := b_ush 0 (by omega) x i
  rw [Nat.zero_add] at this
  exact this
theorem b_us8 (x : Int32) (i : Nat) : bt (ush x (8 : Int32)) i = bt x (8 + i) := b_ush 8 (by omega) x i
theorem b_us16 (x : Int32) (i : Nat) : bt (ush x (16 : Int32)) i = bt x (16 + i) := b_ush 16 (by omega) x i
theorem b_us24 (x : Int32) (i : Nat) : bt (ush x (24 : Int32)) i = bt x (24 + i) := b_ush 24 (by omega) x i
theorem b_k {x : Int32} {i : Nat} {c : Bool} (h : bt x i = c) : bt x i = c := h
theorem lbu_0 {c0 c1 c2 c3 : Int32} (h0 : isb c0) (h1 : isb c1) (h2 : isb c2) (h3 : isb c3) : ((w4b c0 c1 c2 c3) >>> ((24 : Int32) &&& 31)) &&& (255 : Int32) = jn 0 c0 := by
  refine b_ext (fun i hi => ?_)
  rw [b_and, b_255, b_sr24 _ hi, bt_jn _ _ hi, b_0]
  by_cases h8 : i < 8
  · rw [if_pos (show 24 + i < 32 by omega)]
    rw [bt_w4b h0 h1 h2 h3 (by omega)]
    rw [if_neg (by omega), if_neg (by omega), if_neg (by omega), show 24 + i - 24 = i by omega]
    simp [h8]
  · have e := (show isb c0 ∧ True from ⟨h0, trivial⟩).1 i (by omega)
    simp [h8, e]
theorem lbu_1 {c0 c1 c2 c3 : Int32} (h0 : isb c0) (h1 : isb c1) (h2 : isb c2) (h3 : isb c3) : ((w4b c0 c1 c2 c3) >>> ((16 : Int32) &&& 31)) &&& (255 : Int32) = jn 0 c1 := by
  refine b_ext (fun i hi => ?_)
  rw [b_and, b_255, b_sr16 _ hi, bt_jn _ _ hi, b_0]
  by_cases h8 : i < 8
  · rw [if_pos (show 16 + i < 32 by omega)]
    rw [bt_w4b h0 h1 h2 h3 (by omega)]
    rw [if_neg (by omega), if_neg (by omega), if_pos (by omega), show 16 + i - 16 = i by omega]
    simp [h8]
  · have e := (show isb c1 ∧ True from ⟨h1, trivial⟩).1 i (by omega)
    simp [h8, e]
theorem lbu_2 {c0 c1 c2 c3 : Int32} (h0 : isb c0) (h1 : isb c1) (h2 : isb c2) (h3 : isb c3) : ((w4b c0 c1 c2 c3) >>> ((8 : Int32) &&& 31)) &&& (255 : Int32) = jn 0 c2 := by
  refine b_ext (fun i hi => ?_)
  rw [b_and, b_255, b_sr8 _ hi, bt_jn _ _ hi, b_0]
  by_cases h8 : i < 8
  · rw [if_pos (show 8 + i < 32 by omega)]
    rw [bt_w4b h0 h1 h2 h3 (by omega)]
    rw [if_neg (by omega), if_pos (by omega), show 8 + i - 8 = i by omega]
    simp [h8]
  · have e := (show isb c2 ∧ True from ⟨h2, trivial⟩).1 i (by omega)
    simp [h8, e]
theorem lbu_3 {c0 c1 c2 c3 : Int32} (h0 : isb c0) (h1 : isb c1) (h2 : isb c2) (h3 : isb c3) : ((w4b c0 c1 c2 c3) >>> ((0 : Int32) &&& 31)) &&& (255 : Int32) = jn 0 c3 := by
  refine b_ext (fun i hi => ?_)
  rw [b_and, b_255, b_sr0 _ hi, bt_jn _ _ hi, b_0]
  by_cases h8 : i < 8
  · rw [bt_w4b h0 h1 h2 h3 (by omega)]
    rw [if_pos (by omega)]
    simp [h8]
  · have e := (show isb c3 ∧ True from ⟨h3, trivial⟩).1 i (by omega)
    simp [h8, e]
theorem lb_of (x y : Int32) (h : x &&& (255 : Int32) = y &&& (255 : Int32)) : x.toInt8.toInt32 = (y <<< ((24 : Int32) &&& 31)) >>> ((24 : Int32) &&& 31) := by
  have hb : ∀ i, i < 8 → bt x i = bt y i := fun i hi => by
    have h1 := congrArg (fun z => bt z i) h
    simp only [b_and, b_255] at h1
    simpa [hi] using h1
  refine b_ext (fun i hi => ?_)
  rw [b_i8 _ hi, b_sr24 _ hi]
  by_cases h8 : i < 8
  · rw [if_pos h8, if_pos (by omega), b_sl24 _ (by omega), hb i h8]
    simp
  · rw [if_neg h8, if_neg (by omega), b_sl24 _ (by omega), hb 7 (by omega)]
    simp
theorem lh_of (x y : Int32) (h : x &&& (65535 : Int32) = y &&& (65535 : Int32)) : x.toInt16.toInt32 = (y <<< ((16 : Int32) &&& 31)) >>> ((16 : Int32) &&& 31) := by
  have hb : ∀ i, i < 16 → bt x i = bt y i := fun i hi => by
    have h1 := congrArg (fun z => bt z i) h
    simp only [b_and, b_65535] at h1
    simpa [hi] using h1
  refine b_ext (fun i hi => ?_)
  rw [b_i16 _ hi, b_sr16 _ hi]
  by_cases h8 : i < 16
  · rw [if_pos h8, if_pos (by omega), b_sl16 _ (by omega), hb i h8]
    simp
  · rw [if_neg h8, if_neg (by omega), b_sl16 _ (by omega), hb 15 (by omega)]
    simp
theorem jn1_and {c : Int32} (h : isb c) : jn 0 c &&& (255 : Int32) = jn 0 c := by
  refine b_ext (fun i hi => ?_)
  rw [b_and, b_255, bt_jn _ _ hi, b_0]
  by_cases h8 : i < 8
  · simp [h8]
  · have e := h i (by omega)
    simp [h8, e]
theorem jn2_and {c d : Int32} (hc : isb c) (hd : isb d) : jn (jn 0 c) d &&& (65535 : Int32) = jn (jn 0 c) d := by
  refine b_ext (fun i hi => ?_)
  rw [b_and, b_65535, bt_jn _ _ hi, bt_jn _ _ (by omega), b_0]
  by_cases h8 : i < 16
  · simp [h8]
  · have e := hd i (by omega)
    have e2 := hc (i - 8) (by omega)
    simp [h8, e, e2]
theorem lhu_0 {c0 c1 c2 c3 : Int32} (h0 : isb c0) (h1 : isb c1) (h2 : isb c2) (h3 : isb c3) : ((w4b c0 c1 c2 c3) >>> ((16 : Int32) &&& 31)) &&& (65535 : Int32) = jn (jn 0 c0) c1 := by
  refine b_ext (fun i hi => ?_)
  rw [b_and, b_65535, b_sr16 _ hi, bt_jn _ _ hi, bt_jn _ _ (by omega), b_0]
  by_cases h8 : i < 16
  · rw [if_pos (show 16 + i < 32 by omega)]
    rw [bt_w4b h0 h1 h2 h3 (by omega)]
    by_cases h9 : i < 8
    · rw [if_neg (by omega), if_neg (by omega), if_pos (by omega), show 16 + i - 16 = i by omega]
      have h10 : ¬ 8 ≤ i := by omega
      simp [h8, h9, h10]
    · have e := h1 i (by omega)
      rw [if_neg (by omega), if_neg (by omega), if_neg (by omega), show 16 + i - 24 = i - 8 by omega]
      have h10 : 8 ≤ i := by omega
      simp [h8, h9, e, h10]
  · have e := h1 i (by omega)
    have e2 := h0 (i - 8) (by omega)
    simp [h8, e, e2]
theorem lhu_2 {c0 c1 c2 c3 : Int32} (h0 : isb c0) (h1 : isb c1) (h2 : isb c2) (h3 : isb c3) : ((w4b c0 c1 c2 c3) >>> ((0 : Int32) &&& 31)) &&& (65535 : Int32) = jn (jn 0 c2) c3 := by
  refine b_ext (fun i hi => ?_)
  rw [b_and, b_65535, b_sr0 _ hi, bt_jn _ _ hi, bt_jn _ _ (by omega), b_0]
  by_cases h8 : i < 16
  · rw [bt_w4b h0 h1 h2 h3 (by omega)]
    by_cases h9 : i < 8
    · rw [if_pos (by omega)]
      have h10 : ¬ 8 ≤ i := by omega
      simp [h8, h9, h10]
    · have e := h3 i (by omega)
      rw [if_neg (by omega), if_pos (by omega)]
      have h10 : 8 ≤ i := by omega
      simp [h8, h9, e, h10]
  · have e := h3 i (by omega)
    have e2 := h2 (i - 8) (by omega)
    simp [h8, e, e2]
theorem bn_8 : ∀ i, i < 32 → bt ((-1 : Int32) <<< ((8 : Int32) &&& 31)) i = decide (8 ≤ i) := by decide +kernel
theorem bn_16 : ∀ i, i < 32 → bt ((-1 : Int32) <<< ((16 : Int32) &&& 31)) i = decide (16 ≤ i) := by decide +kernel
theorem bn_24 : ∀ i, i < 32 → bt ((-1 : Int32) <<< ((24 : Int32) &&& 31)) i = decide (24 ≤ i) := by decide +kernel
theorem bm_8 : ∀ i, i < 32 → bt (((1 : Int32) <<< ((8 : Int32) &&& 31)) - 1) i = decide (i < 8) := by decide +kernel
theorem bu_8 : ∀ i, i < 32 → bt (ush (-1 : Int32) (8 : Int32)) i = decide (i < 24) := by decide +kernel
theorem xl_8 (o f : Int32) : f_S_exchange o (f <<< ((8 : Int32) &&& 31)) ((-1 : Int32) <<< ((8 : Int32) &&& 31)) = (f <<< ((8 : Int32) &&& 31)) ||| (o &&& (((1 : Int32) <<< ((8 : Int32) &&& 31)) - 1)) := by
  unfold f_S_exchange
  refine b_ext (fun i hi => ?_)
  rw [b_or, b_and, b_xor, b_m1 i hi, b_and, b_or, b_and, bm_8 i hi, bn_8 i hi, b_sl8 _ hi]
  by_cases h : 8 ≤ i
  · have h2 : ¬ i < 8 := by omega
    simp [h, h2]
  · have h2 : i < 8 := by omega
    simp [h, h2]
theorem xr_8 (o f : Int32) : f_S_exchange o (ush f (8 : Int32)) (ush (-1 : Int32) (8 : Int32)) = (ush f (8 : Int32)) ||| (o &&& ((-1 : Int32) <<< (((32 : Int32) - (8 : Int32)) &&& 31))) := by
  unfold f_S_exchange
  refine b_ext (fun i hi => ?_)
  have e : (32 : Int32) - (8 : Int32) = (24 : Int32) := by decide
  rw [e, b_or, b_and, b_xor, b_m1 i hi, b_and, b_or, b_and, bu_8 i hi, bn_24 i hi, b_us8]
  by_cases h : 24 ≤ i
  · have h2 : ¬ i < 24 := by omega
    have h3 : bt f (8 + i) = false := b_big (by omega)
    simp [h, h2, h3]
  · have h2 : i < 24 := by omega
    simp [h, h2]
theorem bm_16 : ∀ i, i < 32 → bt (((1 : Int32) <<< ((16 : Int32) &&& 31)) - 1) i = decide (i < 16) := by decide +kernel
theorem bu_16 : ∀ i, i < 32 → bt (ush (-1 : Int32) (16 : Int32)) i = decide (i < 16) := by decide +kernel
theorem xl_16 (o f : Int32) : f_S_exchange o (f <<< ((16 : Int32) &&& 31)) ((-1 : Int32) <<< ((16 : Int32) &&& 31)) = (f <<< ((16 : Int32) &&& 31)) ||| (o &&& (((1 : Int32) <<< ((16 : Int32) &&& 31)) - 1)) := by
  unfold f_S_exchange
  refine b_ext (fun i hi => ?_)
  rw [b_or, b_and, b_xor, b_m1 i hi, b_and, b_or, b_and, bm_16 i hi, bn_16 i hi, b_sl16 _ hi]
  by_cases h : 16 ≤ i
  · have h2 : ¬ i < 16 := by omega
    simp [h, h2]
  · have h2 : i < 16 := by omega
    simp [h, h2]
theorem xr_16 (o f : Int32) : f_S_exchange o (ush f (16 : Int32)) (ush (-1 : Int32) (16 : Int32)) = (ush f (16 : Int32)) ||| (o &&& ((-1 : Int32) <<< (((32 : Int32) - (16 : Int32)) &&& 31))) := by
  unfold f_S_exchange
  refine b_ext (fun i hi => ?_)
  have e : (32 : Int32) - (16 : Int32) = (16 : Int32) := by decide
  rw [e, b_or, b_and, b_xor, b_m1 i hi, b_and, b_or, b_and, bu_16 i hi, bn_16 i hi, b_us16]
  by_cases h : 16 ≤ i
  · have h2 : ¬ i < 16 := by omega
    have h3 : bt f (16 + i) = false := b_big (by omega)
    simp [h, h2, h3]
  · have h2 : i < 16 := by omega
    simp [h, h2]
theorem bm_24 : ∀ i, i < 32 → bt (((1 : Int32) <<< ((24 : Int32) &&& 31)) - 1) i = decide (i < 24) := by decide +kernel
theorem bu_24 : ∀ i, i < 32 → bt (ush (-1 : Int32) (24 : Int32)) i = decide (i < 8) := by decide +kernel
theorem xl_24 (o f : Int32) : f_S_exchange o (f <<< ((24 : Int32) &&& 31)) ((-1 : Int32) <<< ((24 : Int32) &&& 31)) = (f <<< ((24 : Int32) &&& 31)) ||| (o &&& (((1 : Int32) <<< ((24 : Int32) &&& 31)) - 1)) := by
  unfold f_S_exchange
  refine b_ext (fun i hi => ?_)
  rw [b_or, b_and, b_xor, b_m1 i hi, b_and, b_or, b_and, bm_24 i hi, bn_24 i hi, b_sl24 _ hi]
  by_cases h : 24 ≤ i
  · have h2 : ¬ i < 24 := by omega
    simp [h, h2]
  · have h2 : i < 24 := by omega
    simp [h, h2]
theorem xr_24 (o f : Int32) : f_S_exchange o (ush f (24 : Int32)) (ush (-1 : Int32) (24 : Int32)) = (ush f (24 : Int32)) ||| (o &&& ((-1 : Int32) <<< (((32 : Int32) - (24 : Int32)) &&& 31))) := by
  unfold f_S_exchange
  refine b_ext (fun i hi => ?_)
  have e : (32 : Int32) - (24 : Int32) = (8 : Int32) := by decide
  rw [e, b_or, b_and, b_xor, b_m1 i hi, b_and, b_or, b_and, bu_24 i hi, bn_8 i hi, b_us24]
  by_cases h : 8 ≤ i
  · have h2 : ¬ i < 8 := by omega
    have h3 : bt f (24 + i) = false := b_big (by omega)
    simp [h, h2, h3]
  · have h2 : i < 8 := by omega
    simp [h, h2]
theorem xl_0 (o f : Int32) : f_S_exchange o (f <<< ((0 : Int32) &&& 31)) ((-1 : Int32) <<< ((0 : Int32) &&& 31)) = f := by
  unfold f_S_exchange
  refine b_ext (fun i hi => ?_)
  rw [b_or, b_and, b_xor, b_m1 i hi, b_and, b_sl0 _ hi, b_sl0 _ hi, b_m1 i hi]
  simp
theorem xr_0 (o f : Int32) : f_S_exchange o (ush f (0 : Int32)) (ush (-1 : Int32) (0 : Int32)) = f := by
  unfold f_S_exchange
  refine b_ext (fun i hi => ?_)
  rw [b_or, b_and, b_xor, b_m1 i hi, b_and, b_us0, b_us0, b_m1 i hi]
  simp
def by0 (t : Int32) : Int32 := (t >>> ((0 : Int32) &&& 31)) &&& (255 : Int32)
theorem by0_b (t : Int32) : isb (by0 t) := isb_and _
theorem by0_l (t : Int32) {j : Nat} (h : j < 8) : bt (by0 t) j = bt t (j) := by
  unfold by0
  rw [b_and, b_255, b_sr0 _ (by omega)]
  simp [h]
def by8 (t : Int32) : Int32 := (t >>> ((8 : Int32) &&& 31)) &&& (255 : Int32)
theorem by8_b (t : Int32) : isb (by8 t) := isb_and _
theorem by8_l (t : Int32) {j : Nat} (h : j < 8) : bt (by8 t) j = bt t (8 + j) := by
  unfold by8
  rw [b_and, b_255, b_sr8 _ (by omega)]
  have h2 : 8 + j < 32 := by omega
  rw [if_pos h2]
  simp [h]
def by16 (t : Int32) : Int32 := (t >>> ((16 : Int32) &&& 31)) &&& (255 : Int32)
theorem by16_b (t : Int32) : isb (by16 t) := isb_and _
theorem by16_l (t : Int32) {j : Nat} (h : j < 8) : bt (by16 t) j = bt t (16 + j) := by
  unfold by16
  rw [b_and, b_255, b_sr16 _ (by omega)]
  have h2 : 16 + j < 32 := by omega
  rw [if_pos h2]
  simp [h]
def by24 (t : Int32) : Int32 := (t >>> ((24 : Int32) &&& 31)) &&& (255 : Int32)
theorem by24_b (t : Int32) : isb (by24 t) := isb_and _
theorem by24_l (t : Int32) {j : Nat} (h : j < 8) : bt (by24 t) j = bt t (24 + j) := by
  unfold by24
  rw [b_and, b_255, b_sr24 _ (by omega)]
  have h2 : 24 + j < 32 := by omega
  rw [if_pos h2]
  simp [h]
theorem bf_8 : ∀ i, i < 32 → bt ((255 : Int32) <<< ((8 : Int32) &&& 31)) i = (decide (8 ≤ i) && decide (i < 16)) := by decide +kernel
theorem bf_16 : ∀ i, i < 32 → bt ((255 : Int32) <<< ((16 : Int32) &&& 31)) i = (decide (16 ≤ i) && decide (i < 24)) := by decide +kernel
theorem bf_24 : ∀ i, i < 32 → bt ((255 : Int32) <<< ((24 : Int32) &&& 31)) i = (decide (24 ≤ i) && decide (i < 32)) := by decide +kernel
theorem bf_0 : ∀ i, i < 32 → bt ((255 : Int32) <<< ((0 : Int32) &&& 31)) i = decide (i < 8) := by decide +kernel
theorem bh_16 : ∀ i, i < 32 → bt ((65535 : Int32) <<< ((16 : Int32) &&& 31)) i = decide (16 ≤ i) := by decide +kernel
theorem bh_0 : ∀ i, i < 32 → bt ((65535 : Int32) <<< ((0 : Int32) &&& 31)) i = decide (i < 16) := by decide +kernel
theorem bn_0 : ∀ i, i < 32 → bt ((-1 : Int32) <<< ((0 : Int32) &&& 31)) i = true := by decide +kernel
theorem bu_0 : ∀ i, i < 32 → bt (ush (-1 : Int32) (0 : Int32)) i = true := by decide +kernel
theorem sb_0 {c0 c1 c2 c3 : Int32} (t : Int32) (h0 : isb c0) (h1 : isb c1) (h2 : isb c2) (h3 : isb c3) : f_S_exchange (w4b c0 c1 c2 c3) (t <<< ((24 : Int32) &&& 31)) ((255 : Int32) <<< ((24 : Int32) &&& 31)) = w4b (by0 t) c1 c2 c3 := by
  unfold f_S_exchange
  refine b_ext (fun i hi => ?_)
  rw [b_or, b_and, b_xor, b_m1 i hi, b_and, bf_24 i hi, bt_w4b h0 h1 h2 h3 hi, bt_w4b (by0_b _) h1 h2 h3 hi]
  have hd : i = 0 ∨ i = 1 ∨ i = 2 ∨ i = 3 ∨ i = 4 ∨ i = 5 ∨ i = 6 ∨ i = 7 ∨ i = 8 ∨ i = 9 ∨ i = 10 ∨ i = 11 ∨ i = 12 ∨ i = 13 ∨ i = 14 ∨ i = 15 ∨ i = 16 ∨ i = 17 ∨ i = 18 ∨ i = 19 ∨ i = 20 ∨ i = 21 ∨ i = 22 ∨ i = 23 ∨ i = 24 ∨ i = 25 ∨ i = 26 ∨ i = 27 ∨ i = 28 ∨ i = 29 ∨ i = 30 ∨ i = 31 := by omega
  rcases hd with rfl | rfl | rfl | rfl | rfl | rfl | rfl | rfl | rfl | rfl | rfl | rfl | rfl | rfl | rfl | rfl | rfl | rfl | rfl | rfl | rfl | rfl | rfl | rfl | rfl | rfl | rfl | rfl | rfl | rfl | rfl | rfl <;> simp (decide := true) [b_sl0, b_sl8, b_sl16, b_sl24, b_us0, b_us8, b_us16, b_us24, by0_l, by8_l, by16_l, by24_l]
theorem sb_1 {c0 c1 c2 c3 : Int32} (t : Int32) (h0 : isb c0) (h1 : isb c1) (h2 : isb c2) (h3 : isb c3) : f_S_exchange (w4b c0 c1 c2 c3) (t <<< ((16 : Int32) &&& 31)) ((255 : Int32) <<< ((16 : Int32) &&& 31)) = w4b c0 (by0 t) c2 c3 := by
  unfold f_S_exchange
  refine b_ext (fun i hi => ?_)
  rw [b_or, b_and, b_xor, b_m1 i hi, b_and, bf_16 i hi, bt_w4b h0 h1 h2 h3 hi, bt_w4b h0 (by0_b _) h2 h3 hi]
  have hd : i = 0 ∨ i = 1 ∨ i = 2 ∨ i = 3 ∨ i = 4 ∨ i = 5 ∨ i = 6 ∨ i = 7 ∨ i = 8 ∨ i = 9 ∨ i = 10 ∨ i = 11 ∨ i = 12 ∨ i = 13 ∨ i = 14 ∨ i = 15 ∨ i = 16 ∨ i = 17 ∨ i = 18 ∨ i = 19 ∨ i = 20 ∨ i = 21 ∨ i = 22 ∨ i = 23 ∨ i = 24 ∨ i = 25 ∨ i = 26 ∨ i = 27 ∨ i = 28 ∨ i = 29 ∨ i = 30 ∨ i = 31 := by omega
  rcases hd with rfl | rfl | rfl | rfl | rfl | rfl | rfl | rfl | rfl | rfl | rfl | rfl | rfl | rfl | rfl | rfl | rfl | rfl | rfl | rfl | rfl | rfl | rfl | rfl | rfl | rfl | rfl | rfl | rfl | rfl | rfl | rfl <;> simp (decide := true) [b_sl0, b_sl8, b_sl16, b_sl24, b_us0, b_us8, b_us16, b_us24, by0_l, by8_l, by16_l, by24_l]
theorem sb_2 {c0 c1 c2 c3 : Int32} (t : Int32) (h0 : isb c0) (h1 : isb c1) (h2 : isb c2) (h3 : isb c3) : f_S_exchange (w4b c0 c1 c2 c3) (t <<< ((8 : Int32) &&& 31)) ((255 : Int32) <<< ((8 : Int32) &&& 31)) = w4b c0 c1 (by0 t) c3 := by
  unfold f_S_exchange
  refine b_ext (fun i hi => ?_)
  rw [b_or, b_and, b_xor, b_m1 i hi, b_and, bf_8 i hi, bt_w4b h0 h1 h2 h3 hi, bt_w4b h0 h1 (by0_b _) h3 hi]
  have hd : i = 0 ∨ i = 1 ∨ i = 2 ∨ i = 3 ∨ i = 4 ∨ i = 5 ∨ i = 6 ∨ i = 7 ∨ i = 8 ∨ i = 9 ∨ i = 10 ∨ i = 11 ∨ i = 12 ∨ i = 13 ∨ i = 14 ∨ i = 15 ∨ i = 16 ∨ i = 17 ∨ i = 18 ∨ i = 19 ∨ i = 20 ∨ i = 21 ∨ i = 22 ∨ i = 23 ∨ i = 24 ∨ i = 25 ∨ i = 26 ∨ i = 27 ∨ i = 28 ∨ i = 29 ∨ i = 30 ∨ i = 31 := by omega
  rcases hd with rfl | rfl | rfl | rfl | rfl | rfl | rfl | rfl | rfl | rfl | rfl | rfl | rfl | rfl | rfl | rfl | rfl | rfl | rfl | rfl | rfl | rfl | rfl | rfl | rfl | rfl | rfl | rfl | rfl | rfl | rfl | rfl <;> simp (decide := true) [b_sl0, b_sl8, b_sl16, b_sl24, b_us0, b_us8, b_us16, b_us24, by0_l, by8_l, by16_l, by24_l]
theorem sb_3 {c0 c1 c2 c3 : Int32} (t : Int32) (h0 : isb c0) (h1 : isb c1) (h2 : isb c2) (h3 : isb c3) : f_S_exchange (w4b c0 c1 c2 c3) (t <<< ((0 : Int32) &&& 31)) ((255 : Int32) <<< ((0 : Int32) &&& 31)) = w4b c0 c1 c2 (by0 t) := by
  unfold f_S_exchange
  refine b_ext (fun i hi => ?_)
  rw [b_or, b_and, b_xor, b_m1 i hi, b_and, bf_0 i hi, bt_w4b h0 h1 h2 h3 hi, bt_w4b h0 h1 h2 (by0_b _) hi]
  have hd : i = 0 ∨ i = 1 ∨ i = 2 ∨ i = 3 ∨ i = 4 ∨ i = 5 ∨ i = 6 ∨ i = 7 ∨ i = 8 ∨ i = 9 ∨ i = 10 ∨ i = 11 ∨ i = 12 ∨ i = 13 ∨ i = 14 ∨ i = 15 ∨ i = 16 ∨ i = 17 ∨ i = 18 ∨ i = 19 ∨ i = 20 ∨ i = 21 ∨ i = 22 ∨ i = 23 ∨ i = 24 ∨ i = 25 ∨ i = 26 ∨ i = 27 ∨ i = 28 ∨ i = 29 ∨ i = 30 ∨ i = 31 := by omega
  rcases hd with rfl | rfl | rfl | rfl | rfl | rfl | rfl | rfl | rfl | rfl | rfl | rfl | rfl | rfl | rfl | rfl | rfl | rfl | rfl | rfl | rfl | rfl | rfl | rfl | rfl | rfl | rfl | rfl | rfl | rfl | rfl | rfl <;> simp (decide := true) [b_sl0, b_sl8, b_sl16, b_sl24, b_us0, b_us8, b_us16, b_us24, by0_l, by8_l, by16_l, by24_l]
theorem sh_0 {c0 c1 c2 c3 : Int32} (t : Int32) (h0 : isb c0) (h1 : isb c1) (h2 : isb c2) (h3 : isb c3) : f_S_exchange (w4b c0 c1 c2 c3) (t <<< ((16 : Int32) &&& 31)) ((65535 : Int32) <<< ((16 : Int32) &&& 31)) = w4b (by8 t) (by0 t) c2 c3 := by
  unfold f_S_exchange
  refine b_ext (fun i hi => ?_)
  rw [b_or, b_and, b_xor, b_m1 i hi, b_and, bh_16 i hi, bt_w4b h0 h1 h2 h3 hi, bt_w4b (by8_b _) (by0_b _) h2 h3 hi]
  have hd : i = 0 ∨ i = 1 ∨ i = 2 ∨ i = 3 ∨ i = 4 ∨ i = 5 ∨ i = 6 ∨ i = 7 ∨ i = 8 ∨ i = 9 ∨ i = 10 ∨ i = 11 ∨ i = 12 ∨ i = 13 ∨ i = 14 ∨ i = 15 ∨ i = 16 ∨ i = 17 ∨ i = 18 ∨ i = 19 ∨ i = 20 ∨ i = 21 ∨ i = 22 ∨ i = 23 ∨ i = 24 ∨ i = 25 ∨ i = 26 ∨ i = 27 ∨ i = 28 ∨ i = 29 ∨ i = 30 ∨ i = 31 := by omega
  rcases hd with rfl | rfl | rfl | rfl | rfl | rfl | rfl | rfl | rfl | rfl | rfl | rfl | rfl | rfl | rfl | rfl | rfl | rfl | rfl | rfl | rfl | rfl | rfl | rfl | rfl | rfl | rfl | rfl | rfl | rfl | rfl | rfl <;> simp (decide := true) [b_sl0, b_sl8, b_sl16, b_sl24, b_us0, b_us8, b_us16, b_us24, by0_l, by8_l, by16_l, by24_l]
theorem sh_2 {c0 c1 c2 c3 : Int32} (t : Int32) (h0 : isb c0) (h1 : isb c1) (h2 : isb c2) (h3 : isb c3) : f_S_exchange (w4b c0 c1 c2 c3) (t <<< ((0 : Int32) &&& 31)) ((65535 : Int32) <<< ((0 : Int32) &&& 31)) = w4b c0 c1 (by8 t) (by0 t) := by
  unfold f_S_exchange
  refine b_ext (fun i hi => ?_)
  rw [b_or, b_and, b_xor, b_m1 i hi, b_and, bh_0 i hi, bt_w4b h0 h1 h2 h3 hi, bt_w4b h0 h1 (by8_b _) (by0_b _) hi]
  have hd : i = 0 ∨ i = 1 ∨ i = 2 ∨ i = 3 ∨ i = 4 ∨ i = 5 ∨ i = 6 ∨ i = 7 ∨ i = 8 ∨ i = 9 ∨ i = 10 ∨ i = 11 ∨ i = 12 ∨ i = 13 ∨ i = 14 ∨ i = 15 ∨ i = 16 ∨ i = 17 ∨ i = 18 ∨ i = 19 ∨ i = 20 ∨ i = 21 ∨ i = 22 ∨ i = 23 ∨ i = 24 ∨ i = 25 ∨ i = 26 ∨ i = 27 ∨ i = 28 ∨ i = 29 ∨ i = 30 ∨ i = 31 := by omega
  rcases hd with rfl | rfl | rfl | rfl | rfl | rfl | rfl | rfl | rfl | rfl | rfl | rfl | rfl | rfl | rfl | rfl | rfl | rfl | rfl | rfl | rfl | rfl | rfl | rfl | rfl | rfl | rfl | rfl | rfl | rfl | rfl | rfl <;> simp (decide := true) [b_sl0, b_sl8, b_sl16, b_sl24, b_us0, b_us8, b_us16, b_us24, by0_l, by8_l, by16_l, by24_l]
theorem swl_0 {c0 c1 c2 c3 : Int32} (t : Int32) (h0 : isb c0) (h1 : isb c1) (h2 : isb c2) (h3 : isb c3) : f_S_exchange (w4b c0 c1 c2 c3) (ush t (0 : Int32)) (ush (-1 : Int32) (0 : Int32)) = w4b (by24 (ush t (0 : Int32))) (by16 (ush t (0 : Int32))) (by8 (ush t (0 : Int32))) (by0 (ush t (0 : Int32))) := by
  unfold f_S_exchange
  refine b_ext (fun i hi => ?_)
  rw [b_or, b_and, b_xor, b_m1 i hi, b_and, bu_0 i hi, bt_w4b h0 h1 h2 h3 hi, bt_w4b (by24_b _) (by16_b _) (by8_b _) (by0_b _) hi]
  have hd : i = 0 ∨ i = 1 ∨ i = 2 ∨ i = 3 ∨ i = 4 ∨ i = 5 ∨ i = 6 ∨ i = 7 ∨ i = 8 ∨ i = 9 ∨ i = 10 ∨ i = 11 ∨ i = 12 ∨ i = 13 ∨ i = 14 ∨ i = 15 ∨ i = 16 ∨ i = 17 ∨ i = 18 ∨ i = 19 ∨ i = 20 ∨ i = 21 ∨ i = 22 ∨ i = 23 ∨ i = 24 ∨ i = 25 ∨ i = 26 ∨ i = 27 ∨ i = 28 ∨ i = 29 ∨ i = 30 ∨ i = 31 := by omega
  rcases hd with rfl | rfl | rfl | rfl | rfl | rfl | rfl | rfl | rfl | rfl | rfl | rfl | rfl | rfl | rfl | rfl | rfl | rfl | rfl | rfl | rfl | rfl | rfl | rfl | rfl | rfl | rfl | rfl | rfl | rfl | rfl | rfl <;> simp (decide := true) [b_sl0, b_sl8, b_sl16, b_sl24, b_us0, b_us8, b_us16, b_us24, by0_l, by8_l, by16_l, by24_l]
theorem swr_0 {c0 c1 c2 c3 : Int32} (t : Int32) (h0 : isb c0) (h1 : isb c1) (h2 : isb c2) (h3 : isb c3) : f_S_exchange (w4b c0 c1 c2 c3) (t <<< ((24 : Int32) &&& 31)) ((-1 : Int32) <<< ((24 : Int32) &&& 31)) = w4b (by0 t) c1 c2 c3 := by
  unfold f_S_exchange
  refine b_ext (fun i hi => ?_)
  rw [b_or, b_and, b_xor, b_m1 i hi, b_and, bn_24 i hi, bt_w4b h0 h1 h2 h3 hi, bt_w4b (by0_b _) h1 h2 h3 hi]
  have hd : i = 0 ∨ i = 1 ∨ i = 2 ∨ i = 3 ∨ i = 4 ∨ i = 5 ∨ i = 6 ∨ i = 7 ∨ i = 8 ∨ i = 9 ∨ i = 10 ∨ i = 11 ∨ i = 12 ∨ i = 13 ∨ i = 14 ∨ i = 15 ∨ i = 16 ∨ i = 17 ∨ i = 18 ∨ i = 19 ∨ i = 20 ∨ i = 21 ∨ i = 22 ∨ i = 23 ∨ i = 24 ∨ i = 25 ∨ i = 26 ∨ i = 27 ∨ i = 28 ∨ i = 29 ∨ i = 30 ∨ i = 31 := by omega
  rcases hd with rfl | rfl | rfl | rfl | rfl | rfl | rfl | rfl | rfl | rfl | rfl | rfl | rfl | rfl | rfl | rfl | rfl | rfl | rfl | rfl | rfl | rfl | rfl | rfl | rfl | rfl | rfl | rfl | rfl | rfl | rfl | rfl <;> simp (decide := true) [b_sl0, b_sl8, b_sl16, b_sl24, b_us0, b_us8, b_us16, b_us24, by0_l, by8_l, by16_l, by24_l]
theorem swl_1 {c0 c1 c2 c3 : Int32} (t : Int32) (h0 : isb c0) (h1 : isb c1) (h2 : isb c2) (h3 : isb c3) : f_S_exchange (w4b c0 c1 c2 c3) (ush t (8 : Int32)) (ush (-1 : Int32) (8 : Int32)) = w4b c0 (by16 (ush t (8 : Int32))) (by8 (ush t (8 : Int32))) (by0 (ush t (8 : Int32))) := by
  unfold f_S_exchange
  refine b_ext (fun i hi => ?_)
  rw [b_or, b_and, b_xor, b_m1 i hi, b_and, bu_8 i hi, bt_w4b h0 h1 h2 h3 hi, bt_w4b h0 (by16_b _) (by8_b _) (by0_b _) hi]
  have hd : i = 0 ∨ i = 1 ∨ i = 2 ∨ i = 3 ∨ i = 4 ∨ i = 5 ∨ i = 6 ∨ i = 7 ∨ i = 8 ∨ i = 9 ∨ i = 10 ∨ i = 11 ∨ i = 12 ∨ i = 13 ∨ i = 14 ∨ i = 15 ∨ i = 16 ∨ i = 17 ∨ i = 18 ∨ i = 19 ∨ i = 20 ∨ i = 21 ∨ i = 22 ∨ i = 23 ∨ i = 24 ∨ i = 25 ∨ i = 26 ∨ i = 27 ∨ i = 28 ∨ i = 29 ∨ i = 30 ∨ i = 31 := by omega
  rcases hd with rfl | rfl | rfl | rfl | rfl | rfl | rfl | rfl | rfl | rfl | rfl | rfl | rfl | rfl | rfl | rfl | rfl | rfl | rfl | rfl | rfl | rfl | rfl | rfl | rfl | rfl | rfl | rfl | rfl | rfl | rfl | rfl <;> simp (decide := true) [b_sl0, b_sl8, b_sl16, b_sl24, b_us0, b_us8, b_us16, b_us24, by0_l, by8_l, by16_l, by24_l]
theorem swr_1 {c0 c1 c2 c3 : Int32} (t : Int32) (h0 : isb c0) (h1 : isb c1) (h2 : isb c2) (h3 : isb c3) : f_S_exchange (w4b c0 c1 c2 c3) (t <<< ((16 : Int32) &&& 31)) ((-1 : Int32) <<< ((16 : Int32) &&& 31)) = w4b (by8 t) (by0 t) c2 c3 := by
  unfold f_S_exchange
  refine b_ext (fun i hi => ?_)
  rw [b_or, b_and, b_xor, b_m1 i hi, b_and, bn_16 i hi, bt_w4b h0 h1 h2 h3 hi, bt_w4b (by8_b _) (by0_b _) h2 h3 hi]
  have hd : i = 0 ∨ i = 1 ∨ i = 2 ∨ i = 3 ∨ i = 4 ∨ i = 5 ∨ i = 6 ∨ i = 7 ∨ i = 8 ∨ i = 9 ∨ i = 10 ∨ i = 11 ∨ i = 12 ∨ i = 13 ∨ i = 14 ∨ i = 15 ∨ i = 16 ∨ i = 17 ∨ i = 18 ∨ i = 19 ∨ i = 20 ∨ i = 21 ∨ i = 22 ∨ i = 23 ∨ i = 24 ∨ i = 25 ∨ i = 26 ∨ i = 27 ∨ i = 28 ∨ i = 29 ∨ i = 30 ∨ i = 31 := by omega
  rcases hd with rfl | rfl | rfl | rfl | rfl | rfl | rfl | rfl | rfl | rfl | rfl | rfl | rfl | rfl | rfl | rfl | rfl | rfl | rfl | rfl | rfl | rfl | rfl | rfl | rfl | rfl | rfl | rfl | rfl | rfl | rfl | rfl <;> simp (decide := true) [b_sl0, b_sl8, b_sl16, b_sl24, b_us0, b_us8, b_us16, b_us24, by0_l, by8_l, by16_l, by24_l]
theorem swl_2 {c0 c1 c2 c3 : Int32} (t : Int32) (h0 : isb c0) (h1 : isb c1) (h2 : isb c2) (h3 : isb c3) : f_S_exchange (w4b c0 c1 c2 c3) (ush t (16 : Int32)) (ush (-1 : Int32) (16 : Int32)) = w4b c0 c1 (by8 (ush t (16 : Int32))) (by0 (ush t (16 : Int32))) := by
  unfold f_S_exchange
  refine b_ext (fun i hi => ?_)
  rw [b_or, b_and, b_xor, b_m1 i hi, b_and, bu_16 i hi, bt_w4b h0 h1 h2 h3 hi, bt_w4b h0 h1 (by8_b _) (by0_b _) hi]
  have hd : i = 0 ∨ i = 1 ∨ i = 2 ∨ i = 3 ∨ i = 4 ∨ i = 5 ∨ i = 6 ∨ i = 7 ∨ i = 8 ∨ i = 9 ∨ i = 10 ∨ i = 11 ∨ i = 12 ∨ i = 13 ∨ i = 14 ∨ i = 15 ∨ i = 16 ∨ i = 17 ∨ i = 18 ∨ i = 19 ∨ i = 20 ∨ i = 21 ∨ i = 22 ∨ i = 23 ∨ i = 24 ∨ i = 25 ∨ i = 26 ∨ i = 27 ∨ i = 28 ∨ i = 29 ∨ i = 30 ∨ i = 31 := by omega
  rcases hd with rfl | rfl | rfl | rfl | rfl | rfl | rfl | rfl | rfl | rfl | rfl | rfl | rfl | rfl | rfl | rfl | rfl | rfl | rfl | rfl | rfl | rfl | rfl | rfl | rfl | rfl | rfl | rfl | rfl | rfl | rfl | rfl <;> simp (decide := true) [b_sl0, b_sl8, b_sl16, b_sl24, b_us0, b_us8, b_us16, b_us24, by0_l, by8_l, by16_l, by24_l]
theorem swr_2 {c0 c1 c2 c3 : Int32} (t : Int32) (h0 : isb c0) (h1 : isb c1) (h2 : isb c2) (h3 : isb c3) : f_S_exchange (w4b c0 c1 c2 c3) (t <<< ((8 : Int32) &&& 31)) ((-1 : Int32) <<< ((8 : Int32) &&& 31)) = w4b (by16 t) (by8 t) (by0 t) c3 := by
  unfold f_S_exchange
  refine b_ext (fun i hi => ?_)
  rw [b_or, b_and, b_xor, b_m1 i hi, b_and, bn_8 i hi, bt_w4b h0 h1 h2 h3 hi, bt_w4b (by16_b _) (by8_b _) (by0_b _) h3 hi]
  have hd : i = 0 ∨ i = 1 ∨ i = 2 ∨ i = 3 ∨ i = 4 ∨ i = 5 ∨ i = 6 ∨ i = 7 ∨ i = 8 ∨ i = 9 ∨ i = 10 ∨ i = 11 ∨ i = 12 ∨ i = 13 ∨ i = 14 ∨ i = 15 ∨ i = 16 ∨ i = 17 ∨ i = 18 ∨ i = 19 ∨ i = 20 ∨ i = 21 ∨ i = 22 ∨ i = 23 ∨ i = 24 ∨ i = 25 ∨ i = 26 ∨ i = 27 ∨ i = 28 ∨ i = 29 ∨ i = 30 ∨ i = 31 := by omega
  rcases hd with rfl | rfl | rfl | rfl | rfl | rfl | rfl | rfl | rfl | rfl | rfl | rfl | rfl | rfl | rfl | rfl | rfl | rfl | rfl | rfl | rfl | rfl | rfl | rfl | rfl | rfl | rfl | rfl | rfl | rfl | rfl | rfl <;> simp (decide := true) [b_sl0, b_sl8, b_sl16, b_sl24, b_us0, b_us8, b_us16, b_us24, by0_l, by8_l, by16_l, by24_l]
theorem swl_3 {c0 c1 c2 c3 : Int32} (t : Int32) (h0 : isb c0) (h1 : isb c1) (h2 : isb c2) (h3 : isb c3) : f_S_exchange (w4b c0 c1 c2 c3) (ush t (24 : Int32)) (ush (-1 : Int32) (24 : Int32)) = w4b c0 c1 c2 (by0 (ush t (24 : Int32))) := by
  unfold f_S_exchange
  refine b_ext (fun i hi => ?_)
  rw [b_or, b_and, b_xor, b_m1 i hi, b_and, bu_24 i hi, bt_w4b h0 h1 h2 h3 hi, bt_w4b h0 h1 h2 (by0_b _) hi]
  have hd : i = 0 ∨ i = 1 ∨ i = 2 ∨ i = 3 ∨ i = 4 ∨ i = 5 ∨ i = 6 ∨ i = 7 ∨ i = 8 ∨ i = 9 ∨ i = 10 ∨ i = 11 ∨ i = 12 ∨ i = 13 ∨ i = 14 ∨ i = 15 ∨ i = 16 ∨ i = 17 ∨ i = 18 ∨ i = 19 ∨ i = 20 ∨ i = 21 ∨ i = 22 ∨ i = 23 ∨ i = 24 ∨ i = 25 ∨ i = 26 ∨ i = 27 ∨ i = 28 ∨ i = 29 ∨ i = 30 ∨ i = 31 := by omega
  rcases hd with rfl | rfl | rfl | rfl | rfl | rfl | rfl | rfl | rfl | rfl | rfl | rfl | rfl | rfl | rfl | rfl | rfl | rfl | rfl | rfl | rfl | rfl | rfl | rfl | rfl | rfl | rfl | rfl | rfl | rfl | rfl | rfl <;> simp (decide := true) [b_sl0, b_sl8, b_sl16, b_sl24, b_us0, b_us8, b_us16, b_us24, by0_l, by8_l, by16_l, by24_l]
theorem swr_3 {c0 c1 c2 c3 : Int32} (t : Int32) (h0 : isb c0) (h1 : isb c1) (h2 : isb c2) (h3 : isb c3) : f_S_exchange (w4b c0 c1 c2 c3) (t <<< ((0 : Int32) &&& 31)) ((-1 : Int32) <<< ((0 : Int32) &&& 31)) = w4b (by24 t) (by16 t) (by8 t) (by0 t) := by
  unfold f_S_exchange
  refine b_ext (fun i hi => ?_)
  rw [b_or, b_and, b_xor, b_m1 i hi, b_and, bn_0 i hi, bt_w4b h0 h1 h2 h3 hi, bt_w4b (by24_b _) (by16_b _) (by8_b _) (by0_b _) hi]
  have hd : i = 0 ∨ i = 1 ∨ i = 2 ∨ i = 3 ∨ i = 4 ∨ i = 5 ∨ i = 6 ∨ i = 7 ∨ i = 8 ∨ i = 9 ∨ i = 10 ∨ i = 11 ∨ i = 12 ∨ i = 13 ∨ i = 14 ∨ i = 15 ∨ i = 16 ∨ i = 17 ∨ i = 18 ∨ i = 19 ∨ i = 20 ∨ i = 21 ∨ i = 22 ∨ i = 23 ∨ i = 24 ∨ i = 25 ∨ i = 26 ∨ i = 27 ∨ i = 28 ∨ i = 29 ∨ i = 30 ∨ i = 31 := by omega
  rcases hd with rfl | rfl | rfl | rfl | rfl | rfl | rfl | rfl | rfl | rfl | rfl | rfl | rfl | rfl | rfl | rfl | rfl | rfl | rfl | rfl | rfl | rfl | rfl | rfl | rfl | rfl | rfl | rfl | rfl | rfl | rfl | rfl <;> simp (decide := true) [b_sl0, b_sl8, b_sl16, b_sl24, b_us0, b_us8, b_us16, b_us24, by0_l, by8_l, by16_l, by24_l]
theorem sw_w (t : Int32) : t = w4b (by24 t) (by16 t) (by8 t) (by0 t) := by
  refine b_ext (fun i hi => ?_)
  rw [bt_w4b (by24_b _) (by16_b _) (by8_b _) (by0_b _) hi]
  have hd : i = 0 ∨ i = 1 ∨ i = 2 ∨ i = 3 ∨ i = 4 ∨ i = 5 ∨ i = 6 ∨ i = 7 ∨ i = 8 ∨ i = 9 ∨ i = 10 ∨ i = 11 ∨ i = 12 ∨ i = 13 ∨ i = 14 ∨ i = 15 ∨ i = 16 ∨ i = 17 ∨ i = 18 ∨ i = 19 ∨ i = 20 ∨ i = 21 ∨ i = 22 ∨ i = 23 ∨ i = 24 ∨ i = 25 ∨ i = 26 ∨ i = 27 ∨ i = 28 ∨ i = 29 ∨ i = 30 ∨ i = 31 := by omega
  rcases hd with rfl | rfl | rfl | rfl | rfl | rfl | rfl | rfl | rfl | rfl | rfl | rfl | rfl | rfl | rfl | rfl | rfl | rfl | rfl | rfl | rfl | rfl | rfl | rfl | rfl | rfl | rfl | rfl | rfl | rfl | rfl | rfl <;> simp (decide := true) [by0_l, by8_l, by16_l, by24_l]
