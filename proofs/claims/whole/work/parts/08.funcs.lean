abbrev tyI (cA : Nat → ClassId) : List (ClassId × FieldType) := [(cA 0, .int), (cA 1, .int)]
def wSC (h : Nat → Nat) (cA : Nat → ClassId) (u : St) : va_W := [(h 0, .inr (0, [.ref (h 1), .ref (h 3), .ref (h 5), .ref (h 6), .int (u 0 4), .int (u 0 5), .int (zb (u 0 6)), .int (u 0 7), .int (u 0 8)])), (h 1, .inr (1, [.ref (h 2)])), (h 2, .inl (cA 0, 1024, .inl (u 2))), (h 3, .inr (2, [.ref (h 4), .int (u 3 1), .int (u 3 2)])), (h 4, .inl (cA 1, 34, .inl (u 4))), (h 5, .inr (3, [.int (u 5 0), .int (u 5 1), .int (u 5 2), .int (u 5 3), .int (u 5 4)])), (h 6, .inr (4, [.int (u 6 0), .int (u 6 1), .int (zb (u 6 2)), .int (zb (u 6 3)), .int (u 6 4)]))]
def wMD (h : Nat → Nat) (cA : Nat → ClassId) (u : St) : va_W := [(h 0, .inr (5, [.int (u 0 0), .ref (h 1), .ref (h 2), .int (u 0 3), .int (u 0 4), .int (u 0 5), .int (u 0 6), .int (u 0 7), .int (u 0 8), .int (zb (u 0 9)), .int (u 0 10), .int (u 0 11), .int (zb (u 0 12)), .int (u 0 13), .int (u 0 14), .int (u 0 15), .int (u 0 16), .int (u 0 17), .int (u 0 18), .int (u 0 19), .int (u 0 20), .int (u 0 21), .int (u 0 22), .int (u 0 23), .int (u 0 24), .int (u 0 25), .int (u 0 26), .int (zb (u 0 27))])), (h 1, .inl (cA 0, 4096, .inl (u 1))), (h 2, .inl (cA 1, 34, .inl (u 2)))]
def f_R_holdLoad (a1 : Int32) (a2 : Int32) (u : St) : St := sU (sU u 3 1 a1) 3 2 a2
def f_R_dropLoad (u : St) : St := bnv (f_R_holdLoad (-1 : Int32) (0 : Int32) u) (fun u3 => u3)
def f_R_clear_b2 : Nat → Int32 → St → Option (St)
  | 0 => fun _ _ => none
  | n + 1 => fun x1 u => if (34 : Int32) ≤ x1 then bnv (f_R_dropLoad u) (fun u22 => some (u22)) else if inb x1 34 then f_R_clear_b2 n (x1 + (1 : Int32)) (sU u 4 x1.toNatClampNeg (0 : Int32)) else none
theorem f_R_clear_b2_s (n : Nat) (x1 : Int32) (u : St) : f_R_clear_b2 (n + 1) x1 u = (if (34 : Int32) ≤ x1 then bnv (f_R_dropLoad u) (fun u22 => some (u22)) else if inb x1 34 then f_R_clear_b2 n (x1 + (1 : Int32)) (sU u 4 x1.toNatClampNeg (0 : Int32)) else none) := rfl
def f_R_clear (u : St) : Option (St) := f_R_clear_b2 fuel (0 : Int32) u
def f_C_clear (u : St) : St := sU (sU (sU (sU (sU u 5 0 (0 : Int32)) 5 1 (0 : Int32)) 5 2 (0 : Int32)) 5 3 (0 : Int32)) 5 4 (0 : Int32)
def f_S_continueAt (a1 : Int32) (u : St) : St := sU (sU (sU u 0 4 a1) 0 5 (a1 + (4 : Int32))) 0 6 (0 : Int32)
def f_S_reset (u : St) : Option (St) := obv (f_R_clear u) (fun u4 => bnv (f_C_clear u4) (fun u11 => bnv (f_S_continueAt (0 : Int32) u11) (fun u16 => some (sU (sU u16 0 7 (0 : Int32)) 0 8 (0 : Int32)))))
def f_S_isInMemory (a1 : Int32) : Int32 := if a1 < (0 : Int32) then (0 : Int32) else if (4096 : Int32) ≤ a1 then (0 : Int32) else (1 : Int32)
def f_S_isPlaceOfWord (a1 : Int32) : Int32 := if (a1 &&& (3 : Int32)) = (0 : Int32) then if (zb (f_S_isInMemory a1)) = (0 : Int32) then (0 : Int32) else (1 : Int32) else (0 : Int32)
def f_M_indexOf (a1 : Int32) : Int32 := (a1 >>> ((2 : Int32) &&& 31)) &&& (1023 : Int32)
def f_M_wordAround (a1 : Int32) (u : St) : Int32 := (u 2) (f_M_indexOf a1).toNatClampNeg
def f_M_replaceWord (a1 : Int32) (a2 : Int32) (u : St) : St := sU u 2 ((f_M_indexOf a1).toNatClampNeg) a2
def f_S_put (a1 : Int32) (a2 : Int32) (u : St) : Option (Int32 × St) := if (zb (f_S_isPlaceOfWord a1)) = (0 : Int32) then none else bnv (f_M_replaceWord a1 a2 u) (fun u30 => some ((f_M_wordAround a1 u, u30)))
def f_S_word (a1 : Int32) (u : St) : Option (Int32) := if (zb (f_S_isPlaceOfWord a1)) = (0 : Int32) then none else some (f_M_wordAround a1 u)
def f_R_valueOf (a1 : Int32) (u : St) : Int32 := if a1 < (0 : Int32) then (0 : Int32) else if (34 : Int32) ≤ a1 then (0 : Int32) else (u 4) a1.toNatClampNeg
def f_R_change (a1 : Int32) (a2 : Int32) (u : St) : St := if a1 ≤ (0 : Int32) then u else if (34 : Int32) ≤ a1 then u else sU u 4 a1.toNatClampNeg a2
def f_S_set_b10 (u : St) : Option (Int32 × St) := none
def f_S_set (a1 : Int32) (a2 : Int32) (u : St) : Option (Int32 × St) := if a1 < (0 : Int32) then f_S_set_b10 u else if a1 < (34 : Int32) then bnv (f_R_change a1 a2 u) (fun u33 => some ((f_R_valueOf a1 u, u33))) else f_S_set_b10 u
def f_S_register_b10 (u : St) : Option (Int32) := none
def f_S_register (a1 : Int32) (u : St) : Option (Int32) := if a1 < (0 : Int32) then f_S_register_b10 u else if a1 < (34 : Int32) then some (f_R_valueOf a1 u) else f_S_register_b10 u
def f_S_go (a1 : Int32) (u : St) : Int32 × St := bnv (f_R_dropLoad u) (fun u9 => bnv (f_S_continueAt a1 u9) (fun u14 => (u 0 4, u14)))
def f_S_exchange (a1 : Int32) (a2 : Int32) (a3 : Int32) : Int32 := (a1 &&& (a3 ^^^ (-1 : Int32))) ||| (a2 &&& a3)
def f_C_change (a1 : Int32) (a2 : Int32) (u : St) : St := if a1 = (12 : Int32) then sU u 5 0 (a2 &&& (65343 : Int32)) else if a1 = (13 : Int32) then sU u 5 1 (f_S_exchange (u 5 1) a2 (768 : Int32)) else if a1 = (14 : Int32) then sU u 5 3 a2 else u
def f_S_status (a1 : Int32) (u : St) : Int32 × St := bnv (f_C_change (12 : Int32) a1 u) (fun u15 => (u 5 0, u15))
def f_S_lines_b10 (u : St) : Option (Int32 × St) := none
def f_S_lines (a1 : Int32) (u : St) : Option (Int32 × St) := if a1 < (0 : Int32) then f_S_lines_b10 u else if a1 ≤ (63 : Int32) then some ((u 5 2, sU u 5 2 a1)) else f_S_lines_b10 u
def f_C_wholeCause (u : St) : Int32 := (u 5 1) ||| ((u 5 2) <<< ((10 : Int32) &&& 31))
def f_C_interruptIsDue (u : St) : Int32 := if ((u 5 0) &&& (1 : Int32)) = (0 : Int32) then (0 : Int32) else if (((f_C_wholeCause u) &&& (u 5 0)) &&& (65280 : Int32)) = (0 : Int32) then (0 : Int32) else (1 : Int32)
def f_R_landLoad (u : St) : St := bnv (f_R_change (u 3 1) (u 3 2) u) (fun u9 => bnv (f_R_dropLoad u9) (fun u13 => u13))
def f_C_enter_b28 (y0 : Int32) (y1 : Int32) (u : St) : St := sU (sU u 5 1 (y1 ||| y0)) 5 0 (f_S_exchange (u 5 0) ((u 5 0) <<< ((2 : Int32) &&& 31)) (63 : Int32))
def f_C_enter (a1 : Int32) (a2 : Int32) (a3 : Int32) (u : St) : St := if (zb a3) = (0 : Int32) then f_C_enter_b28 (0 : Int32) (((u 5 1) &&& (768 : Int32)) ||| (a1 <<< ((2 : Int32) &&& 31))) (sU u 5 3 a2) else f_C_enter_b28 (-2147483648 : Int32) (((u 5 1) &&& (768 : Int32)) ||| (a1 <<< ((2 : Int32) &&& 31))) (sU u 5 3 a2)
def f_S_enterException_b42 (y0 : Int32) (y1 : Int32) (u : St) : St := bnv (f_C_enter y1 y0 (u 0 6) u) (fun u46 => bnv (f_S_continueAt (-2147483520 : Int32) u46) (fun u52 => u52))
def f_S_enterException (a1 : Int32) (u : St) : St := bnv (f_R_landLoad (sU u 0 8 ((u 0 8) + (1 : Int32)))) (fun u14 => if (zb (u14 0 6)) = (0 : Int32) then f_S_enterException_b42 (u14 0 4) a1 u14 else f_S_enterException_b42 ((u14 0 4) - (4 : Int32)) a1 u14)
def f_C_isUser (u : St) : Int32 := if ((u 5 0) &&& (2 : Int32)) = (0 : Int32) then (0 : Int32) else (1 : Int32)
def f_C_forbids (a1 : Int32) (u : St) : Int32 := if (zb (f_C_isUser u)) = (0 : Int32) then (0 : Int32) else if (0 : Int32) ≤ a1 then (0 : Int32) else (1 : Int32)
def f_S_faultAtPc_b23 (u : St) : Int32 × St := ((4 : Int32), sU u 5 4 (u 0 4))
def f_S_faultAtPc (u : St) : Int32 × St := if ((u 0 4) &&& (3 : Int32)) = (0 : Int32) then if (zb (f_C_forbids (u 0 4) u)) = (0 : Int32) then if (zb (f_S_isInMemory ((u 0 4) &&& (536870911 : Int32)))) = (0 : Int32) then ((6 : Int32), u) else ((-1 : Int32), u) else f_S_faultAtPc_b23 u else f_S_faultAtPc_b23 u
def f_O_begin (a1 : Int32) (u : St) : St := sU (sU (sU (sU u 6 0 (-1 : Int32)) 6 2 (0 : Int32)) 6 3 (0 : Int32)) 6 4 a1
def f_S_orderOf (a1 : Int32) : Int32 := ush a1 (26 : Int32)
def f_S_numberK (a1 : Int32) : Int32 := a1 &&& (63 : Int32)
def f_S_numberT (a1 : Int32) : Int32 := (ush a1 (16 : Int32)) &&& (31 : Int32)
def f_S_isBranchBySign (a1 : Int32) : Int32 := if (f_S_numberT a1) = (0 : Int32) then (1 : Int32) else if (f_S_numberT a1) = (1 : Int32) then (1 : Int32) else if (f_S_numberT a1) = (16 : Int32) then (1 : Int32) else if (f_S_numberT a1) = (17 : Int32) then (1 : Int32) else (0 : Int32)
def f_S_isBranch (a1 : Int32) : Int32 := if (f_S_orderOf a1) = (0 : Int32) then if (f_S_numberK a1) = (8 : Int32) then (1 : Int32) else if (f_S_numberK a1) = (9 : Int32) then (1 : Int32) else (0 : Int32) else if (f_S_orderOf a1) = (1 : Int32) then f_S_isBranchBySign a1 else if (8 : Int32) ≤ (f_S_orderOf a1) then (0 : Int32) else (1 : Int32)
def f_S_valueOfT (a1 : Int32) (u : St) : Int32 := f_R_valueOf (f_S_numberT a1) u
def f_S_numberD (a1 : Int32) : Int32 := (ush a1 (11 : Int32)) &&& (31 : Int32)
def f_S_numberS (a1 : Int32) : Int32 := (ush a1 (21 : Int32)) &&& (31 : Int32)
def f_S_valueOfS (a1 : Int32) (u : St) : Int32 := f_R_valueOf (f_S_numberS a1) u
def f_S_numberA (a1 : Int32) : Int32 := (ush a1 (6 : Int32)) &&& (31 : Int32)
def f_S_give (a1 : Int32) (a2 : Int32) (u : St) : Int32 × St := ((-1 : Int32), sU (sU u 6 0 a1) 6 1 a2)
def f_S_performShift_b124 (x2 : Int32) (x3 : Int32) (x4 : Int32) (u : St) : Int32 × St := bnd (f_S_give x3 (x2 >>> (x4 &&& 31)) u) (fun r130 u130 => (r130, u130))
def f_S_performShift (a1 : Int32) (u : St) : Int32 × St := if (f_S_numberK a1) = (0 : Int32) then bnd (f_S_give (f_S_numberD a1) ((f_S_valueOfT a1 u) <<< ((f_S_numberA a1) &&& 31)) u) (fun r76 u76 => (r76, u76)) else if (f_S_numberK a1) = (2 : Int32) then bnd (f_S_give (f_S_numberD a1) (ush (f_S_valueOfT a1 u) (f_S_numberA a1)) u) (fun r88 u88 => (r88, u88)) else if (f_S_numberK a1) = (3 : Int32) then bnd (f_S_give (f_S_numberD a1) ((f_S_valueOfT a1 u) >>> ((f_S_numberA a1) &&& 31)) u) (fun r100 u100 => (r100, u100)) else if (f_S_numberK a1) = (4 : Int32) then bnd (f_S_give (f_S_numberD a1) ((f_S_valueOfT a1 u) <<< (((f_S_valueOfS a1 u) &&& (31 : Int32)) &&& 31)) u) (fun r110 u110 => (r110, u110)) else if (f_S_numberK a1) = (6 : Int32) then bnd (f_S_give (f_S_numberD a1) (ush (f_S_valueOfT a1 u) ((f_S_valueOfS a1 u) &&& (31 : Int32))) u) (fun r120 u120 => (r120, u120)) else f_S_performShift_b124 (f_S_valueOfT a1 u) (f_S_numberD a1) ((f_S_valueOfS a1 u) &&& (31 : Int32)) u
def f_S_branchIf (a1 : Int32) (a2 : Int32) (u : St) : Int32 × St := if (zb a1) = (0 : Int32) then ((-1 : Int32), sU u 6 3 (1 : Int32)) else ((-1 : Int32), sU (sU u 6 3 (1 : Int32)) 6 4 a2)
def f_S_performJumpToS_b25 (x1 : Int32) (u : St) : Int32 × St := bnd (f_S_branchIf (1 : Int32) (f_S_valueOfS x1 u) u) (fun r32 u32 => (r32, u32))
def f_S_performJumpToS (a1 : Int32) (u : St) : Int32 × St := if (f_S_numberK a1) = (9 : Int32) then bnd (f_S_give (f_S_numberD a1) ((u 0 4) + (8 : Int32)) u) (fun r21 u21 => f_S_performJumpToS_b25 a1 u21) else f_S_performJumpToS_b25 a1 u
def f_S_performMove (a1 : Int32) (u : St) : Int32 × St := if (f_S_numberK a1) = (16 : Int32) then bnd (f_S_give (f_S_numberD a1) (f_R_valueOf (32 : Int32) u) u) (fun r46 u46 => (r46, u46)) else if (f_S_numberK a1) = (17 : Int32) then bnd (f_S_give (32 : Int32) (f_S_valueOfS a1 u) u) (fun r58 u58 => (r58, u58)) else if (f_S_numberK a1) = (18 : Int32) then bnd (f_S_give (f_S_numberD a1) (f_R_valueOf (33 : Int32) u) u) (fun r76 u76 => (r76, u76)) else bnd (f_S_give (33 : Int32) (f_S_valueOfS a1 u) u) (fun r88 u88 => (r88, u88))
def f_S_keepHighAndLow (a1 : Int64) (u : St) : Int32 × St := bnv (f_R_change (32 : Int32) ((a1 >>> ((32 : Int32).toInt64 &&& 63)).toInt32) u) (fun u11 => bnv (f_R_change (33 : Int32) a1.toInt32 u11) (fun u22 => ((-1 : Int32), u22)))
def f_S_withoutSign (a1 : Int32) : Int64 := a1.toInt64 &&& (4294967295 : Int64)
def f_S_restAndQuotient (a1 : Int64) (a2 : Int64) : Int64 := (a1 <<< ((32 : Int32).toInt64 &&& 63)) ||| (a2 &&& (4294967295 : Int64))
def f_S_divide_b17 (y0 : Int64) (y1 : Int64) : Int64 := f_S_restAndQuotient y1 y0
def f_S_divide (a1 : Int32) (a2 : Int32) : Int64 := if a2 = (0 : Int32) then if (0 : Int32) ≤ a1 then f_S_divide_b17 (-1 : Int64) a1.toInt64 else f_S_divide_b17 (1 : Int64) a1.toInt64 else f_S_restAndQuotient (a1.toInt64 - a1.toInt64 / a2.toInt64 * a2.toInt64) (a1.toInt64 / a2.toInt64)
def f_S_divideWithoutSign (a1 : Int32) (a2 : Int32) : Int64 := if a2 = (0 : Int32) then f_S_restAndQuotient a1.toInt64 (-1 : Int64) else f_S_restAndQuotient ((f_S_withoutSign a1) - (f_S_withoutSign a1) / (f_S_withoutSign a2) * (f_S_withoutSign a2)) ((f_S_withoutSign a1) / (f_S_withoutSign a2))
def f_S_performProduct (a1 : Int32) (u : St) : Int32 × St := if (f_S_numberK a1) = (24 : Int32) then bnd (f_S_keepHighAndLow (((f_S_valueOfS a1 u).toInt64) * ((f_S_valueOfT a1 u).toInt64)) u) (fun r50 u50 => (r50, u50)) else if (f_S_numberK a1) = (25 : Int32) then bnd (f_S_keepHighAndLow ((f_S_withoutSign (f_S_valueOfS a1 u)) * (f_S_withoutSign (f_S_valueOfT a1 u))) u) (fun r64 u64 => (r64, u64)) else if (f_S_numberK a1) = (26 : Int32) then bnd (f_S_keepHighAndLow (f_S_divide (f_S_valueOfS a1 u) (f_S_valueOfT a1 u)) u) (fun r74 u74 => (r74, u74)) else bnd (f_S_keepHighAndLow (f_S_divideWithoutSign (f_S_valueOfS a1 u) (f_S_valueOfT a1 u)) u) (fun r84 u84 => (r84, u84))
def f_S_giveIfExact (a1 : Int32) (a2 : Int64) (u : St) : Int32 × St := if (lg_cmp a2 a2.toInt32.toInt64) = (0 : Int32) then bnd (f_S_give a1 a2.toInt32 u) (fun r15 u15 => (r15, u15)) else ((12 : Int32), u)
def f_S_giveTruth_b11 (y0 : Int32) (y1 : Int32) (u : St) : Int32 × St := bnd (f_S_give y1 y0 u) (fun r11 u11 => (r11, u11))
def f_S_giveTruth (a1 : Int32) (a2 : Int32) (u : St) : Int32 × St := if (zb a2) = (0 : Int32) then f_S_giveTruth_b11 (0 : Int32) a1 u else f_S_giveTruth_b11 (1 : Int32) a1 u
def f_S_performOnTwo_b183 (y0 : Int32) (y1 : Int32) (u : St) : Int32 × St := bnd (f_S_giveTruth y1 y0 u) (fun r183 u183 => (r183, u183))
def f_S_performOnTwo_b207 (y0 : Int32) (y1 : Int32) (u : St) : Int32 × St := bnd (f_S_giveTruth y1 y0 u) (fun r207 u207 => (r207, u207))
def f_S_performOnTwo (a1 : Int32) (u : St) : Int32 × St := if (f_S_numberK a1) = (32 : Int32) then bnd (f_S_giveIfExact (f_S_numberD a1) (((f_S_valueOfS a1 u).toInt64) + ((f_S_valueOfT a1 u).toInt64)) u) (fun r92 u92 => (r92, u92)) else if (f_S_numberK a1) = (33 : Int32) then bnd (f_S_give (f_S_numberD a1) ((f_S_valueOfS a1 u) + (f_S_valueOfT a1 u)) u) (fun r102 u102 => (r102, u102)) else if (f_S_numberK a1) = (34 : Int32) then bnd (f_S_giveIfExact (f_S_numberD a1) (((f_S_valueOfS a1 u).toInt64) - ((f_S_valueOfT a1 u).toInt64)) u) (fun r114 u114 => (r114, u114)) else if (f_S_numberK a1) = (35 : Int32) then bnd (f_S_give (f_S_numberD a1) ((f_S_valueOfS a1 u) - (f_S_valueOfT a1 u)) u) (fun r124 u124 => (r124, u124)) else if (f_S_numberK a1) = (36 : Int32) then bnd (f_S_give (f_S_numberD a1) ((f_S_valueOfS a1 u) &&& (f_S_valueOfT a1 u)) u) (fun r134 u134 => (r134, u134)) else if (f_S_numberK a1) = (37 : Int32) then bnd (f_S_give (f_S_numberD a1) ((f_S_valueOfS a1 u) ||| (f_S_valueOfT a1 u)) u) (fun r144 u144 => (r144, u144)) else if (f_S_numberK a1) = (38 : Int32) then bnd (f_S_give (f_S_numberD a1) ((f_S_valueOfS a1 u) ^^^ (f_S_valueOfT a1 u)) u) (fun r154 u154 => (r154, u154)) else if (f_S_numberK a1) = (39 : Int32) then bnd (f_S_give (f_S_numberD a1) (((f_S_valueOfS a1 u) ||| (f_S_valueOfT a1 u)) ^^^ (-1 : Int32)) u) (fun r166 u166 => (r166, u166)) else if (f_S_numberK a1) = (42 : Int32) then if (f_S_valueOfT a1 u) ≤ (f_S_valueOfS a1 u) then f_S_performOnTwo_b183 (0 : Int32) (f_S_numberD a1) u else f_S_performOnTwo_b183 (1 : Int32) (f_S_numberD a1) u else if (f_S_numberK a1) = (43 : Int32) then if (0 : Int32) ≤ (lg_cmp (f_S_withoutSign (f_S_valueOfS a1 u)) (f_S_withoutSign (f_S_valueOfT a1 u))) then f_S_performOnTwo_b207 (0 : Int32) (f_S_numberD a1) u else f_S_performOnTwo_b207 (1 : Int32) (f_S_numberD a1) u else ((10 : Int32), u)
def f_S_performByK_b132 (x1 : Int32) (u : St) : Int32 × St := bnd (f_S_performShift x1 u) (fun r134 u134 => (r134, u134))
def f_S_performByK_b138 (x1 : Int32) (u : St) : Int32 × St := bnd (f_S_performJumpToS x1 u) (fun r140 u140 => (r140, u140))
def f_S_performByK_b150 (x1 : Int32) (u : St) : Int32 × St := bnd (f_S_performMove x1 u) (fun r152 u152 => (r152, u152))
def f_S_performByK_b156 (x1 : Int32) (u : St) : Int32 × St := bnd (f_S_performProduct x1 u) (fun r158 u158 => (r158, u158))
def f_S_performByK_b162 (x1 : Int32) (u : St) : Int32 × St := bnd (f_S_performOnTwo x1 u) (fun r164 u164 => (r164, u164))
def f_S_performByK (a1 : Int32) (u : St) : Int32 × St := if (f_S_numberK a1) = (0 : Int32) then f_S_performByK_b132 a1 u else if (f_S_numberK a1) = (2 : Int32) then f_S_performByK_b132 a1 u else if (f_S_numberK a1) = (3 : Int32) then f_S_performByK_b132 a1 u else if (f_S_numberK a1) = (4 : Int32) then f_S_performByK_b132 a1 u else if (f_S_numberK a1) = (6 : Int32) then f_S_performByK_b132 a1 u else if (f_S_numberK a1) = (7 : Int32) then f_S_performByK_b132 a1 u else if (f_S_numberK a1) = (8 : Int32) then f_S_performByK_b138 a1 u else if (f_S_numberK a1) = (9 : Int32) then f_S_performByK_b138 a1 u else if (f_S_numberK a1) = (12 : Int32) then ((8 : Int32), u) else if (f_S_numberK a1) = (13 : Int32) then ((9 : Int32), u) else if (f_S_numberK a1) = (16 : Int32) then f_S_performByK_b150 a1 u else if (f_S_numberK a1) = (17 : Int32) then f_S_performByK_b150 a1 u else if (f_S_numberK a1) = (18 : Int32) then f_S_performByK_b150 a1 u else if (f_S_numberK a1) = (19 : Int32) then f_S_performByK_b150 a1 u else if (f_S_numberK a1) = (24 : Int32) then f_S_performByK_b156 a1 u else if (f_S_numberK a1) = (25 : Int32) then f_S_performByK_b156 a1 u else if (f_S_numberK a1) = (26 : Int32) then f_S_performByK_b156 a1 u else if (f_S_numberK a1) = (27 : Int32) then f_S_performByK_b156 a1 u else f_S_performByK_b162 a1 u
def f_S_numberI (a1 : Int32) : Int32 := a1.toInt16.toInt32
def f_S_nearTarget (a1 : Int32) (u : St) : Int32 := ((u 0 4) + (4 : Int32)) + ((4 : Int32) * (f_S_numberI a1))
def f_S_performBranchBySign_b84 (x1 : Int32) (y0 : Int32) (u : St) : Int32 × St := bnd (f_S_branchIf y0 (f_S_nearTarget x1 u) u) (fun r89 u89 => (r89, u89))
def f_S_performBranchBySign_b76 (x1 : Int32) (y0 : Int32) (y1 : Int32) (u : St) : Int32 × St := if y1 = y0 then f_S_performBranchBySign_b84 x1 (1 : Int32) u else f_S_performBranchBySign_b84 x1 (0 : Int32) u
def f_S_performBranchBySign_b62 (x1 : Int32) (x2 : Int32) (y0 : Int32) (u : St) : Int32 × St := if (0 : Int32) ≤ x2 then f_S_performBranchBySign_b76 x1 (0 : Int32) y0 u else f_S_performBranchBySign_b76 x1 (1 : Int32) y0 u
def f_S_performBranchBySign_b57 (x1 : Int32) (x2 : Int32) (u : St) : Int32 × St := f_S_performBranchBySign_b62 x1 x2 (1 : Int32) u
def f_S_performBranchBySign_b47 (x1 : Int32) (x2 : Int32) (x3 : Int32) (u : St) : Int32 × St := if x3 = (0 : Int32) then f_S_performBranchBySign_b57 x1 x2 u else if x3 = (16 : Int32) then f_S_performBranchBySign_b57 x1 x2 u else f_S_performBranchBySign_b62 x1 x2 (0 : Int32) u
def f_S_performBranchBySign_b33 (x1 : Int32) (x2 : Int32) (x3 : Int32) (u : St) : Int32 × St := bnd (f_S_give (31 : Int32) ((u 0 4) + (8 : Int32)) u) (fun r43 u43 => f_S_performBranchBySign_b47 x1 x2 x3 u43)
def f_S_performBranchBySign (a1 : Int32) (u : St) : Int32 × St := if (zb (f_S_isBranchBySign a1)) = (0 : Int32) then ((10 : Int32), u) else if (f_S_numberT a1) = (16 : Int32) then f_S_performBranchBySign_b33 a1 (f_S_valueOfS a1 u) (f_S_numberT a1) u else if (f_S_numberT a1) = (17 : Int32) then f_S_performBranchBySign_b33 a1 (f_S_valueOfS a1 u) (f_S_numberT a1) u else f_S_performBranchBySign_b47 a1 (f_S_valueOfS a1 u) (f_S_numberT a1) u
def f_S_farTarget (a1 : Int32) (u : St) : Int32 := (((u 0 4) + (4 : Int32)) &&& (-268435456 : Int32)) ||| ((a1 <<< ((2 : Int32) &&& 31)) &&& (268435455 : Int32))
def f_S_performJump_b22 (x1 : Int32) (u : St) : Int32 × St := bnd (f_S_branchIf (1 : Int32) (f_S_farTarget x1 u) u) (fun r29 u29 => (r29, u29))
def f_S_performJump (a1 : Int32) (u : St) : Int32 × St := if (f_S_orderOf a1) = (3 : Int32) then bnd (f_S_give (31 : Int32) ((u 0 4) + (8 : Int32)) u) (fun r18 u18 => f_S_performJump_b22 a1 u18) else f_S_performJump_b22 a1 u
def f_S_performBranch_b55 (x1 : Int32) (y0 : Int32) (u : St) : Int32 × St := bnd (f_S_branchIf y0 (f_S_nearTarget x1 u) u) (fun r60 u60 => (r60, u60))
def f_S_performBranch_b75 (x1 : Int32) (y0 : Int32) (u : St) : Int32 × St := bnd (f_S_branchIf y0 (f_S_nearTarget x1 u) u) (fun r80 u80 => (r80, u80))
def f_S_performBranch_b94 (x1 : Int32) (y0 : Int32) (u : St) : Int32 × St := bnd (f_S_branchIf y0 (f_S_nearTarget x1 u) u) (fun r99 u99 => (r99, u99))
def f_S_performBranch_b113 (x1 : Int32) (y0 : Int32) (u : St) : Int32 × St := bnd (f_S_branchIf y0 (f_S_nearTarget x1 u) u) (fun r118 u118 => (r118, u118))
def f_S_performBranch (a1 : Int32) (u : St) : Int32 × St := if (f_S_orderOf a1) = (4 : Int32) then if (f_S_valueOfS a1 u) = (f_S_valueOfT a1 u) then f_S_performBranch_b55 a1 (1 : Int32) u else f_S_performBranch_b55 a1 (0 : Int32) u else if (f_S_orderOf a1) = (5 : Int32) then if (f_S_valueOfS a1 u) = (f_S_valueOfT a1 u) then f_S_performBranch_b75 a1 (0 : Int32) u else f_S_performBranch_b75 a1 (1 : Int32) u else if (f_S_orderOf a1) = (6 : Int32) then if (0 : Int32) < (f_S_valueOfS a1 u) then f_S_performBranch_b94 a1 (0 : Int32) u else f_S_performBranch_b94 a1 (1 : Int32) u else if (f_S_valueOfS a1 u) ≤ (0 : Int32) then f_S_performBranch_b113 a1 (0 : Int32) u else f_S_performBranch_b113 a1 (1 : Int32) u
def f_S_numberU (a1 : Int32) : Int32 := a1 &&& (65535 : Int32)
def f_S_performWithNumber_b103 (y0 : Int32) (y1 : Int32) (u : St) : Int32 × St := bnd (f_S_giveTruth y1 y0 u) (fun r103 u103 => (r103, u103))
def f_S_performWithNumber_b127 (y0 : Int32) (y1 : Int32) (u : St) : Int32 × St := bnd (f_S_giveTruth y1 y0 u) (fun r127 u127 => (r127, u127))
def f_S_performWithNumber (a1 : Int32) (u : St) : Int32 × St := if (f_S_orderOf a1) = (8 : Int32) then bnd (f_S_giveIfExact (f_S_numberT a1) (((f_S_valueOfS a1 u).toInt64) + ((f_S_numberI a1).toInt64)) u) (fun r76 u76 => (r76, u76)) else if (f_S_orderOf a1) = (9 : Int32) then bnd (f_S_give (f_S_numberT a1) ((f_S_valueOfS a1 u) + (f_S_numberI a1)) u) (fun r86 u86 => (r86, u86)) else if (f_S_orderOf a1) = (10 : Int32) then if (f_S_numberI a1) ≤ (f_S_valueOfS a1 u) then f_S_performWithNumber_b103 (0 : Int32) (f_S_numberT a1) u else f_S_performWithNumber_b103 (1 : Int32) (f_S_numberT a1) u else if (f_S_orderOf a1) = (11 : Int32) then if (0 : Int32) ≤ (lg_cmp (f_S_withoutSign (f_S_valueOfS a1 u)) (f_S_withoutSign (f_S_numberI a1))) then f_S_performWithNumber_b127 (0 : Int32) (f_S_numberT a1) u else f_S_performWithNumber_b127 (1 : Int32) (f_S_numberT a1) u else if (f_S_orderOf a1) = (12 : Int32) then bnd (f_S_give (f_S_numberT a1) ((f_S_valueOfS a1 u) &&& (f_S_numberU a1)) u) (fun r137 u137 => (r137, u137)) else if (f_S_orderOf a1) = (13 : Int32) then bnd (f_S_give (f_S_numberT a1) ((f_S_valueOfS a1 u) ||| (f_S_numberU a1)) u) (fun r147 u147 => (r147, u147)) else if (f_S_orderOf a1) = (14 : Int32) then bnd (f_S_give (f_S_numberT a1) ((f_S_valueOfS a1 u) ^^^ (f_S_numberU a1)) u) (fun r157 u157 => (r157, u157)) else bnd (f_S_give (f_S_numberT a1) ((f_S_numberU a1) <<< ((16 : Int32) &&& 31)) u) (fun r168 u168 => (r168, u168))
def f_C_valueOf (a1 : Int32) (u : St) : Int32 := if a1 = (8 : Int32) then u 5 4 else if a1 = (12 : Int32) then u 5 0 else if a1 = (13 : Int32) then f_C_wholeCause u else if a1 = (14 : Int32) then u 5 3 else (0 : Int32)
def f_S_giveLate (a1 : Int32) (a2 : Int32) (u : St) : Int32 × St := bnd (f_S_give a1 a2 (sU u 6 2 (1 : Int32))) (fun r11 u11 => (r11, u11))
def f_C_leave (u : St) : St := sU u 5 0 (f_S_exchange (u 5 0) ((u 5 0) >>> ((2 : Int32) &&& 31)) (15 : Int32))
def f_S_performControl_b42 (x1 : Int32) (x2 : Int32) (x3 : Int32) (u : St) : Int32 × St := if (zb (f_C_isUser u)) = (0 : Int32) then if x2 = (0 : Int32) then bnd (f_S_giveLate (f_S_numberT x1) (f_C_valueOf (f_S_numberD x1) u) u) (fun r75 u75 => (r75, u75)) else if x3 = (0 : Int32) then bnv (f_C_change (f_S_numberD x1) (f_S_valueOfT x1 u) u) (fun u106 => ((-1 : Int32), u106)) else bnv (f_C_leave u) (fun u87 => ((-1 : Int32), u87)) else ((11 : Int32), u)
def f_S_performControl_b25 (x1 : Int32) (x2 : Int32) (y0 : Int32) (u : St) : Int32 × St := if x2 = (0 : Int32) then f_S_performControl_b42 x1 x2 y0 u else if x2 = (4 : Int32) then f_S_performControl_b42 x1 x2 y0 u else if y0 = (0 : Int32) then ((10 : Int32), u) else f_S_performControl_b42 x1 x2 y0 u
def f_S_performControl_b24 (x1 : Int32) (x2 : Int32) (u : St) : Int32 × St := f_S_performControl_b25 x1 x2 (0 : Int32) u
def f_S_performControl (a1 : Int32) (u : St) : Int32 × St := if (f_S_numberS a1) = (16 : Int32) then if (f_S_numberK a1) = (16 : Int32) then f_S_performControl_b25 a1 (f_S_numberS a1) (1 : Int32) u else f_S_performControl_b24 a1 (f_S_numberS a1) u else f_S_performControl_b24 a1 (f_S_numberS a1) u
def f_S_addressOf (a1 : Int32) (u : St) : Int32 := (f_S_valueOfS a1 u) + (f_S_numberI a1)
def f_S_loadUnit (a1 : Int32) : Int32 := if a1 = (35 : Int32) then (4 : Int32) else if a1 = (33 : Int32) then (2 : Int32) else if a1 = (37 : Int32) then (2 : Int32) else (1 : Int32)
def f_S_faultOfData_b19 (x1 : Int32) (x3 : Int32) (u : St) : Int32 × St := (x3, sU u 5 4 x1)
def f_S_faultOfData (a1 : Int32) (a2 : Int32) (a3 : Int32) (u : St) : Int32 × St := if (a1 &&& (a2 - (1 : Int32))) = (0 : Int32) then if (zb (f_C_forbids a1 u)) = (0 : Int32) then if (zb (f_S_isInMemory (a1 &&& (536870911 : Int32)))) = (0 : Int32) then ((7 : Int32), u) else ((-1 : Int32), u) else f_S_faultOfData_b19 a1 a3 u else f_S_faultOfData_b19 a1 a3 u
def f_R_latestOf (a1 : Int32) (u : St) : Int32 := if (u 3 1) = a1 then u 3 2 else f_R_valueOf a1 u
def f_S_toLowest (a1 : Int32) (a2 : Int32) : Int32 := ((8 : Int32) * (((4 : Int32) - a2) - (a1 &&& (3 : Int32)))) &&& (31 : Int32)
def f_S_bitsAhead (a1 : Int32) : Int32 := (8 : Int32) * (a1 &&& (3 : Int32))
def f_S_joinLoaded (a1 : Int32) (a2 : Int32) (a3 : Int32) (a4 : Int32) : Int32 := if a1 = (32 : Int32) then (a3 >>> ((f_S_toLowest a4 (1 : Int32)) &&& 31)).toInt8.toInt32 else if a1 = (33 : Int32) then (a3 >>> ((f_S_toLowest a4 (2 : Int32)) &&& 31)).toInt16.toInt32 else if a1 = (34 : Int32) then f_S_exchange a2 (a3 <<< ((f_S_bitsAhead a4) &&& 31)) ((-1 : Int32) <<< ((f_S_bitsAhead a4) &&& 31)) else if a1 = (35 : Int32) then a3 else if a1 = (36 : Int32) then (a3 >>> ((f_S_toLowest a4 (1 : Int32)) &&& 31)) &&& (255 : Int32) else if a1 = (37 : Int32) then (a3 >>> ((f_S_toLowest a4 (2 : Int32)) &&& 31)) &&& (65535 : Int32) else f_S_exchange a2 (ush a3 (f_S_toLowest a4 (1 : Int32))) (ush (-1 : Int32) (f_S_toLowest a4 (1 : Int32)))
def f_S_performLoad (a1 : Int32) (u : St) : Int32 × St := bnd (f_S_faultOfData (f_S_addressOf a1 u) (f_S_loadUnit (f_S_orderOf a1)) (4 : Int32) u) (fun r16 u16 => if r16 = (-1 : Int32) then bnd (f_S_giveLate (f_S_numberT a1) (f_S_joinLoaded (f_S_orderOf a1) (f_R_latestOf (f_S_numberT a1) u16) (f_M_wordAround ((f_S_addressOf a1 u) &&& (536870911 : Int32)) u16) (f_S_addressOf a1 u)) u16) (fun r68 u68 => (r68, u68)) else (r16, u16))
def f_S_storeUnit (a1 : Int32) : Int32 := if a1 = (43 : Int32) then (4 : Int32) else if a1 = (41 : Int32) then (2 : Int32) else (1 : Int32)
def f_S_joinStored (a1 : Int32) (a2 : Int32) (a3 : Int32) (a4 : Int32) : Int32 := if a1 = (40 : Int32) then f_S_exchange a2 (a3 <<< ((f_S_toLowest a4 (1 : Int32)) &&& 31)) ((255 : Int32) <<< ((f_S_toLowest a4 (1 : Int32)) &&& 31)) else if a1 = (41 : Int32) then f_S_exchange a2 (a3 <<< ((f_S_toLowest a4 (2 : Int32)) &&& 31)) ((65535 : Int32) <<< ((f_S_toLowest a4 (2 : Int32)) &&& 31)) else if a1 = (42 : Int32) then f_S_exchange a2 (ush a3 (f_S_bitsAhead a4)) (ush (-1 : Int32) (f_S_bitsAhead a4)) else if a1 = (43 : Int32) then a3 else f_S_exchange a2 (a3 <<< ((f_S_toLowest a4 (1 : Int32)) &&& 31)) ((-1 : Int32) <<< ((f_S_toLowest a4 (1 : Int32)) &&& 31))
def f_S_performStore (a1 : Int32) (u : St) : Int32 × St := bnd (f_S_faultOfData (f_S_addressOf a1 u) (f_S_storeUnit (f_S_orderOf a1)) (5 : Int32) u) (fun r16 u16 => if r16 = (-1 : Int32) then bnv (f_M_replaceWord ((f_S_addressOf a1 u) &&& (536870911 : Int32)) (f_S_joinStored (f_S_orderOf a1) (f_M_wordAround ((f_S_addressOf a1 u) &&& (536870911 : Int32)) u16) (f_S_valueOfT a1 u16) (f_S_addressOf a1 u)) u16) (fun u65 => ((-1 : Int32), u65)) else (r16, u16))
def f_S_perform_b248 (x1 : Int32) (u : St) : Int32 × St := bnd (f_S_performJump x1 u) (fun r250 u250 => (r250, u250))
def f_S_perform_b254 (x1 : Int32) (u : St) : Int32 × St := bnd (f_S_performBranch x1 u) (fun r256 u256 => (r256, u256))
def f_S_perform_b260 (x1 : Int32) (u : St) : Int32 × St := bnd (f_S_performWithNumber x1 u) (fun r262 u262 => (r262, u262))
def f_S_perform_b272 (x1 : Int32) (u : St) : Int32 × St := bnd (f_S_performLoad x1 u) (fun r274 u274 => (r274, u274))
def f_S_perform_b278 (x1 : Int32) (u : St) : Int32 × St := bnd (f_S_performStore x1 u) (fun r280 u280 => (r280, u280))
def f_S_perform_b30 (x1 : Int32) (u : St) : Int32 × St := if (f_S_orderOf x1) = (0 : Int32) then bnd (f_S_performByK x1 u) (fun r238 u238 => (r238, u238)) else if (f_S_orderOf x1) = (1 : Int32) then bnd (f_S_performBranchBySign x1 u) (fun r244 u244 => (r244, u244)) else if (f_S_orderOf x1) = (2 : Int32) then f_S_perform_b248 x1 u else if (f_S_orderOf x1) = (3 : Int32) then f_S_perform_b248 x1 u else if (f_S_orderOf x1) = (4 : Int32) then f_S_perform_b254 x1 u else if (f_S_orderOf x1) = (5 : Int32) then f_S_perform_b254 x1 u else if (f_S_orderOf x1) = (6 : Int32) then f_S_perform_b254 x1 u else if (f_S_orderOf x1) = (7 : Int32) then f_S_perform_b254 x1 u else if (f_S_orderOf x1) = (8 : Int32) then f_S_perform_b260 x1 u else if (f_S_orderOf x1) = (9 : Int32) then f_S_perform_b260 x1 u else if (f_S_orderOf x1) = (10 : Int32) then f_S_perform_b260 x1 u else if (f_S_orderOf x1) = (11 : Int32) then f_S_perform_b260 x1 u else if (f_S_orderOf x1) = (12 : Int32) then f_S_perform_b260 x1 u else if (f_S_orderOf x1) = (13 : Int32) then f_S_perform_b260 x1 u else if (f_S_orderOf x1) = (14 : Int32) then f_S_perform_b260 x1 u else if (f_S_orderOf x1) = (15 : Int32) then f_S_perform_b260 x1 u else if (f_S_orderOf x1) = (16 : Int32) then bnd (f_S_performControl x1 u) (fun r268 u268 => (r268, u268)) else if (f_S_orderOf x1) = (32 : Int32) then f_S_perform_b272 x1 u else if (f_S_orderOf x1) = (33 : Int32) then f_S_perform_b272 x1 u else if (f_S_orderOf x1) = (34 : Int32) then f_S_perform_b272 x1 u else if (f_S_orderOf x1) = (35 : Int32) then f_S_perform_b272 x1 u else if (f_S_orderOf x1) = (36 : Int32) then f_S_perform_b272 x1 u else if (f_S_orderOf x1) = (37 : Int32) then f_S_perform_b272 x1 u else if (f_S_orderOf x1) = (38 : Int32) then f_S_perform_b272 x1 u else if (f_S_orderOf x1) = (40 : Int32) then f_S_perform_b278 x1 u else if (f_S_orderOf x1) = (41 : Int32) then f_S_perform_b278 x1 u else if (f_S_orderOf x1) = (42 : Int32) then f_S_perform_b278 x1 u else if (f_S_orderOf x1) = (43 : Int32) then f_S_perform_b278 x1 u else if (f_S_orderOf x1) = (46 : Int32) then f_S_perform_b278 x1 u else ((10 : Int32), u)
def f_S_perform (a1 : Int32) (u : St) : Int32 × St := bnv (f_O_begin ((u 0 5) + (4 : Int32)) u) (fun u10 => if (zb (u10 0 6)) = (0 : Int32) then f_S_perform_b30 a1 u10 else if (zb (f_S_isBranch a1)) = (0 : Int32) then f_S_perform_b30 a1 u10 else ((10 : Int32), u10))
def f_S_finishInstruction_b62 (u : St) : St := sU (sU (sU u 0 4 (u 0 5)) 0 5 (u 6 4)) 0 6 (u 6 3)
def f_S_finishInstruction (u : St) : St := bnv (f_R_landLoad u) (fun u4 => if (zb (u4 6 2)) = (0 : Int32) then bnv (f_R_change (u4 6 0) (u4 6 1) u4) (fun u59 => f_S_finishInstruction_b62 u59) else bnv (f_R_holdLoad (u4 6 0) (u4 6 1) u4) (fun u35 => f_S_finishInstruction_b62 u35))
def f_S_takeStep_b56 (x1 : Int32) (u : St) : Int32 × St := if x1 = (-1 : Int32) then bnv (f_S_finishInstruction u) (fun u69 => ((0 : Int32), u69)) else bnv (f_S_enterException x1 u) (fun u63 => ((1 : Int32), u63))
def f_S_takeStep (u : St) : Int32 × St := if (zb (f_C_interruptIsDue (sU u 0 7 ((u 0 7) + (1 : Int32))))) = (0 : Int32) then bnd (f_S_faultAtPc (sU u 0 7 ((u 0 7) + (1 : Int32)))) (fun r28 u28 => if r28 = (-1 : Int32) then bnd (f_S_perform (f_M_wordAround ((u28 0 4) &&& (536870911 : Int32)) u28) u28) (fun r52 u52 => f_S_takeStep_b56 r52 u52) else f_S_takeStep_b56 r28 u28) else bnv (f_S_enterException (0 : Int32) (sU u 0 7 ((u 0 7) + (1 : Int32)))) (fun u22 => ((2 : Int32), u22))
def f_S_step (u : St) : Int32 × St := bnd (f_S_takeStep u) (fun r1 u1 => (r1, u1))
def f_S_run_b11 (u : St) : Option (Option (Int32 × St)) := some none
def f_S_run_b26 : Nat → Int32 → Int32 → Int32 → St → Option (Option (Int32 × St))
  | 0 => fun _ _ _ _ => none
  | n + 1 => fun x1 x2 x3 u => if x1 ≤ x3 then some (some (((u 0 8) - x2, u))) else bnd (f_S_takeStep u) (fun r32 u32 => f_S_run_b26 n x1 x2 (x3 + (1 : Int32)) u32)
theorem f_S_run_b26_s (n : Nat) (x1 : Int32) (x2 : Int32) (x3 : Int32) (u : St) : f_S_run_b26 (n + 1) x1 x2 x3 u = (if x1 ≤ x3 then some (some (((u 0 8) - x2, u))) else bnd (f_S_takeStep u) (fun r32 u32 => f_S_run_b26 n x1 x2 (x3 + (1 : Int32)) u32)) := rfl
def f_S_run (a1 : Int32) (u : St) : Option (Option (Int32 × St)) := if a1 < (0 : Int32) then f_S_run_b11 u else if a1 ≤ (5000 : Int32) then f_S_run_b26 fuel a1 (u 0 8) (0 : Int32) u else f_S_run_b11 u
def f_S_look (a1 : Int32) (u : St) : Option (Int32) := if a1 = (0 : Int32) then some (u 0 4) else if a1 = (1 : Int32) then some (u 0 5) else if a1 = (2 : Int32) then some (u 5 0) else if a1 = (3 : Int32) then some (f_C_wholeCause u) else if a1 = (4 : Int32) then some (u 5 3) else if a1 = (5 : Int32) then some (u 5 4) else if a1 = (6 : Int32) then if (zb (u 0 6)) = (0 : Int32) then some ((0 : Int32)) else some ((1 : Int32)) else if a1 = (7 : Int32) then some (u 3 1) else if a1 = (8 : Int32) then some (u 3 2) else if a1 = (9 : Int32) then some (u 0 7) else if a1 = (10 : Int32) then some (u 0 8) else none
theorem my_idx (x : Int32) : vp_in (f_M_indexOf x) 1024 := by
  unfold f_M_indexOf
  exact pk_andIn (k := 10) _ (by decide) (by decide)
theorem my_in34 {x : Int32} (h1 : ¬ x < 0) (h2 : ¬ 34 ≤ x) : vp_in x 34 := by
  rw [vp_in_iff]
  rw [Int32.lt_iff_toInt_lt] at h1
  rw [Int32.le_iff_toInt_le] at h2
  have e0 : (0 : Int32).toInt = 0 := rfl
  have e1 : (34 : Int32).toInt = 34 := rfl
  omega
theorem my_in34p {x : Int32} (h1 : ¬ x ≤ 0) (h2 : ¬ 34 ≤ x) : vp_in x 34 := by
  rw [vp_in_iff]
  rw [Int32.le_iff_toInt_le] at h1 h2
  have e0 : (0 : Int32).toInt = 0 := rfl
  have e1 : (34 : Int32).toInt = 34 := rfl
  omega
theorem my_c34 {x : Int32} (h : inb x 34 = true) : vp_in x 34 := by
  rw [vp_in_iff]
  simp [inb] at h
  exact h
theorem my_and31 (x : Int32) : vp_in (x &&& 31) 34 := by
  have h : vp_in (x &&& 31) 32 := pk_andIn (k := 5) x (by decide) (by decide)
  rw [vp_in_iff] at h ⊢
  omega
theorem my_nz {t : Int32} (h : ¬ t = 0) : ¬ t.toInt64 = 0 := by
  intro e
  apply h
  apply Int32.toInt_inj.mp
  have e2 := congrArg Int64.toInt e
  rw [Int32.toInt_toInt64] at e2
  exact e2
theorem my_nzu {t : Int32} (h : ¬ t = 0) : ¬ f_S_withoutSign t = 0 := by
  intro e
  apply h
  unfold f_S_withoutSign at e
  apply Int32.toBitVec_inj.mp
  have e2 : (BitVec.signExtend 64 t.toBitVec &&& 4294967295#64) = 0#64 := congrArg Int64.toBitVec e
  apply BitVec.eq_of_getLsbD_eq
  intro i hi
  have e3 := congrArg (fun b => b.getLsbD i) e2
  have e4 : (4294967295#64).getLsbD i = true := (by decide +kernel : ∀ i, i < 32 → (4294967295#64).getLsbD i = true) i hi
  simp only [BitVec.getLsbD_and, e4, BitVec.getLsbD_signExtend] at e3
  have h64 : i < 64 := by omega
  simpa [hi, h64] using e3
theorem my_tn32 : (32 : Int32).toNatClampNeg = 32 := by decide +kernel
theorem my_tn33 : (33 : Int32).toNatClampNeg = 33 := by decide +kernel
section MYS
variable {p : Program} {l : Launch} {e : Env} {R : Room} {s : State} {m : MethodId} {args : Array Value} {below : List Frame} {meth : Method} {c : Code} {H : Heap} {locs : List Loc} {cells slots : Nat} {Q : State → Prop}
variable {cc : ByteArray} {pc : Nat} {ls : Array Slot} {rest : List Value} {D : va_G} {A : Nat → Prop} {H0 : Heap} {h : Nat → Nat} {cA : Nat → ClassId} {u : St}
theorem st_SC2 (hexec : p.tables.exec = Jvm.exec) (hb : c.code = cc) (hK : va_K D vwCl (tyI cA) s) (hP : va_P D vwCl (wSC h cA u) H) (hD : va_D A (wSC h cA u)) (hS : va_S A H0 H locs) {i x : Int32} (hin : vp_in i 1024) (hdg : decode cc pc = .ok (.iastore, 1))
    (kk : ∀ (H1 : Heap) (locs1 : List Loc), va_P D vwCl (wSC h cA (sU u 2 i.toNatClampNeg x)) H1 → va_D A (wSC h cA (sU u 2 i.toNatClampNeg x)) → va_S A H0 H1 locs1 → W p l e R s m args below meth c H1 locs1 cells slots Q (F0 m (pc + 1) ls rest)) : W p l e R s m args below meth c H locs cells slots Q (F0 m pc ls (.int x :: .int i :: .ref (h 2) :: rest)) :=
  va_iast hexec hb hK hP hD hS 2 0 rfl rfl hin hdg kk
theorem st_SC4 (hexec : p.tables.exec = Jvm.exec) (hb : c.code = cc) (hK : va_K D vwCl (tyI cA) s) (hP : va_P D vwCl (wSC h cA u) H) (hD : va_D A (wSC h cA u)) (hS : va_S A H0 H locs) {i x : Int32} (hin : vp_in i 34) (hdg : decode cc pc = .ok (.iastore, 1))
    (kk : ∀ (H1 : Heap) (locs1 : List Loc), va_P D vwCl (wSC h cA (sU u 4 i.toNatClampNeg x)) H1 → va_D A (wSC h cA (sU u 4 i.toNatClampNeg x)) → va_S A H0 H1 locs1 → W p l e R s m args below meth c H1 locs1 cells slots Q (F0 m (pc + 1) ls rest)) : W p l e R s m args below meth c H locs cells slots Q (F0 m pc ls (.int x :: .int i :: .ref (h 4) :: rest)) :=
  va_iast hexec hb hK hP hD hS 4 1 rfl rfl hin hdg kk
theorem st_MD1 (hexec : p.tables.exec = Jvm.exec) (hb : c.code = cc) (hK : va_K D vwCl (tyI cA) s) (hP : va_P D vwCl (wMD h cA u) H) (hD : va_D A (wMD h cA u)) (hS : va_S A H0 H locs) {i x : Int32} (hin : vp_in i 4096) (hdg : decode cc pc = .ok (.iastore, 1))
    (kk : ∀ (H1 : Heap) (locs1 : List Loc), va_P D vwCl (wMD h cA (sU u 1 i.toNatClampNeg x)) H1 → va_D A (wMD h cA (sU u 1 i.toNatClampNeg x)) → va_S A H0 H1 locs1 → W p l e R s m args below meth c H1 locs1 cells slots Q (F0 m (pc + 1) ls rest)) : W p l e R s m args below meth c H locs cells slots Q (F0 m pc ls (.int x :: .int i :: .ref (h 1) :: rest)) :=
  va_iast hexec hb hK hP hD hS 1 0 rfl rfl hin hdg kk
theorem st_MD2 (hexec : p.tables.exec = Jvm.exec) (hb : c.code = cc) (hK : va_K D vwCl (tyI cA) s) (hP : va_P D vwCl (wMD h cA u) H) (hD : va_D A (wMD h cA u)) (hS : va_S A H0 H locs) {i x : Int32} (hin : vp_in i 34) (hdg : decode cc pc = .ok (.iastore, 1))
    (kk : ∀ (H1 : Heap) (locs1 : List Loc), va_P D vwCl (wMD h cA (sU u 2 i.toNatClampNeg x)) H1 → va_D A (wMD h cA (sU u 2 i.toNatClampNeg x)) → va_S A H0 H1 locs1 → W p l e R s m args below meth c H1 locs1 cells slots Q (F0 m (pc + 1) ls rest)) : W p l e R s m args below meth c H locs cells slots Q (F0 m pc ls (.int x :: .int i :: .ref (h 2) :: rest)) :=
  va_iast hexec hb hK hP hD hS 2 1 rfl rfl hin hdg kk
end MYS
