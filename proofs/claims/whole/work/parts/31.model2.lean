set_option maxHeartbeats 4000000 in
set_option maxRecDepth 100000 in
theorem c_D_isBranch (l : Launch) (D : va_G) (h : Nat → Nat) (cA : Nat → ClassId) (u : St) (F : Int32) (hw : f_D_isBranch u = F) : MI nwS vwCl l ny_D_isBranch nw_D_isBranch ({ frames := 0, cells := 0, slots := 0, locals := 0 }) D (tyI cA) (wMD h cA) ([.ref (h 0)] : List Value) u (zb F, u) := by
  refine my_in (gw := GW) (cc := nc_D_isBranch) (maxL := 2) (ret := (some .boolean)) (Qc := fun A => QI vwCl D (tyI cA) (wMD h cA) (zb F, u) A) (by decide) rfl (Nat.le_of_ble_eq_true rfl) ?_
  intro p e s m below meth c A H locs ls hx hb hml hr hts hown hlocks hK hN hA hP hD hS hl
  have hown : s.vm.findClass nR_D = some m.cls := hown
  have hl : lv_has ls 2 [(0, .ref (h 0))] := hl
  have J61 : ∀ (H : Heap) (locs : List Loc) (ls : Array Slot), va_P D vwCl (wMD h cA u) H → va_D A (wMD h cA u) → va_S A s.heap H locs → lv_has ls 2 [(0, .ref (h 0))] → f_D_isBranch_b61 u = F →
      W p l e (headSpec nw_D_isBranch ({ frames := 0, cells := 0, slots := 0, locals := 0 })).room s m ([.ref (h 0)] : List Value).toArray below meth c H locs 0 0 (MQ below (QI vwCl D (tyI cA) (wMD h cA) (zb F, u) A) ([.ref (h 0)] : List Value).toArray s 0 0 A) (F0 m 61 ls []) := by
    intro H locs ls hP hD hS hl hw
    unfold f_D_isBranch_b61 at hw
    refine lv_aload_n hx hb nd_D_isBranch_61 rfl (lv_at hl 0 rfl) ?_
    refine va_get (D := D) (ci := 5) (v := .int (u 0 18)) (C := nR_D) (T := nT_D) (N := 28) hx hb hts nu_D hown hK hP 0 rfl rfl 18 (by decide) (hts _ gw_432) (fun _ h9 => h9) rfl nd_D_isBranch_62 ?_
    refine lv_iconst (v := (2 : Int32)) hx hb nd_D_isBranch_65 (by decide) ?_
    refine lv_icmp_lt (tgt := 82) hx hb nd_D_isBranch_66 (by decide) (fun h66 => ?_) (fun h66 => ?_)
    · have hw := (if_pos h66).symm.trans hw
      refine lv_iconst (v := (0 : Int32)) hx hb nd_D_isBranch_82 (by decide) ?_
      exact my_rzo (u' := u) (x := (0 : Int32)) hx hb hr hlocks hK hP hD hS hw rfl nd_D_isBranch_83
    have hw := (if_neg h66).symm.trans hw
    refine lv_aload_n hx hb nd_D_isBranch_69 rfl (lv_at hl 0 rfl) ?_
    refine va_get (D := D) (ci := 5) (v := .int (u 0 18)) (C := nR_D) (T := nT_D) (N := 28) hx hb hts nu_D hown hK hP 0 rfl rfl 18 (by decide) (hts _ gw_432) (fun _ h9 => h9) rfl nd_D_isBranch_70 ?_
    refine lv_bipush (v := (7 : Int32)) hx hb nd_D_isBranch_73 (by decide) ?_
    refine lv_icmp_gt (tgt := 82) hx hb nd_D_isBranch_75 (by decide) (fun h75 => ?_) (fun h75 => ?_)
    · have hw := (if_pos h75).symm.trans hw
      refine lv_iconst (v := (0 : Int32)) hx hb nd_D_isBranch_82 (by decide) ?_
      exact my_rzo (u' := u) (x := (0 : Int32)) hx hb hr hlocks hK hP hD hS hw rfl nd_D_isBranch_83
    have hw := (if_neg h75).symm.trans hw
    refine lv_iconst (v := (1 : Int32)) hx hb nd_D_isBranch_78 (by decide) ?_
    refine lv_goto (tgt := 83) hx hb nd_D_isBranch_79 (by decide) ?_
    exact my_rzo (u' := u) (x := (1 : Int32)) hx hb hr hlocks hK hP hD hS hw rfl nd_D_isBranch_83
  have J36 : ∀ (x1 : Int32) (H : Heap) (locs : List Loc) (ls : Array Slot), va_P D vwCl (wMD h cA u) H → va_D A (wMD h cA u) → va_S A s.heap H locs → lv_has ls 2 [(0, .ref (h 0)), (1, .int x1)] → f_D_isBranch_b36 x1 u = F →
      W p l e (headSpec nw_D_isBranch ({ frames := 0, cells := 0, slots := 0, locals := 0 })).room s m ([.ref (h 0)] : List Value).toArray below meth c H locs 0 0 (MQ below (QI vwCl D (tyI cA) (wMD h cA) (zb F, u) A) ([.ref (h 0)] : List Value).toArray s 0 0 A) (F0 m 36 ls []) := by
    intro x1 H locs ls hP hD hS hl hw
    unfold f_D_isBranch_b36 at hw
    refine lv_aload_n hx hb nd_D_isBranch_36 rfl (lv_at hl 0 rfl) ?_
    refine va_get (D := D) (ci := 5) (v := .int (u 0 18)) (C := nR_D) (T := nT_D) (N := 28) hx hb hts nu_D hown hK hP 0 rfl rfl 18 (by decide) (hts _ gw_432) (fun _ h9 => h9) rfl nd_D_isBranch_37 ?_
    refine lv_iconst (v := (1 : Int32)) hx hb nd_D_isBranch_40 (by decide) ?_
    refine lv_icmp_ne (tgt := 61) hx hb nd_D_isBranch_41 (by decide) (fun h41 => ?_) (fun h41 => ?_)
    · have hw := (if_neg h41).symm.trans hw
      exact J61 H locs ls hP hD hS (lv_sub hl [0] rfl) hw
    have hw := (if_pos h41).symm.trans hw
    refine lv_iload_n hx hb nd_D_isBranch_44 rfl (lv_at hl 1 rfl) ?_
    refine lv_iconst (v := (2 : Int32)) hx hb nd_D_isBranch_45 (by decide) ?_
    refine lv_icmp_lt (tgt := 78) hx hb nd_D_isBranch_46 (by decide) (fun h46 => ?_) (fun h46 => ?_)
    · have hw := (if_pos h46).symm.trans hw
      refine lv_iconst (v := (1 : Int32)) hx hb nd_D_isBranch_78 (by decide) ?_
      refine lv_goto (tgt := 83) hx hb nd_D_isBranch_79 (by decide) ?_
      exact my_rzo (u' := u) (x := (1 : Int32)) hx hb hr hlocks hK hP hD hS hw rfl nd_D_isBranch_83
    have hw := (if_neg h46).symm.trans hw
    refine lv_iload_n hx hb nd_D_isBranch_49 rfl (lv_at hl 1 rfl) ?_
    refine lv_bipush (v := (16 : Int32)) hx hb nd_D_isBranch_50 (by decide) ?_
    refine lv_icmp_eq (tgt := 78) hx hb nd_D_isBranch_52 (by decide) (fun h52 => ?_) (fun h52 => ?_)
    · have hw := (if_pos h52).symm.trans hw
      refine lv_iconst (v := (1 : Int32)) hx hb nd_D_isBranch_78 (by decide) ?_
      refine lv_goto (tgt := 83) hx hb nd_D_isBranch_79 (by decide) ?_
      exact my_rzo (u' := u) (x := (1 : Int32)) hx hb hr hlocks hK hP hD hS hw rfl nd_D_isBranch_83
    have hw := (if_neg h52).symm.trans hw
    refine lv_iload_n hx hb nd_D_isBranch_55 rfl (lv_at hl 1 rfl) ?_
    refine lv_bipush (v := (17 : Int32)) hx hb nd_D_isBranch_56 (by decide) ?_
    refine lv_icmp_eq (tgt := 78) hx hb nd_D_isBranch_58 (by decide) (fun h58 => ?_) (fun h58 => ?_)
    · have hw := (if_pos h58).symm.trans hw
      refine lv_iconst (v := (1 : Int32)) hx hb nd_D_isBranch_78 (by decide) ?_
      refine lv_goto (tgt := 83) hx hb nd_D_isBranch_79 (by decide) ?_
      exact my_rzo (u' := u) (x := (1 : Int32)) hx hb hr hlocks hK hP hD hS hw rfl nd_D_isBranch_83
    have hw := (if_neg h58).symm.trans hw
    exact J61 H locs ls hP hD hS (lv_sub hl [0] rfl) hw
  unfold f_D_isBranch at hw
  refine lv_aload_n hx hb nd_D_isBranch_0 rfl (lv_at hl 0 rfl) ?_
  refine va_get (D := D) (ci := 5) (v := .int (u 0 17)) (C := nR_D) (T := nT_D) (N := 28) hx hb hts nu_D hown hK hP 0 rfl rfl 17 (by decide) (hts _ gw_431) (fun _ h9 => h9) rfl nd_D_isBranch_1 ?_
  refine lv_bipush (v := (16 : Int32)) hx hb nd_D_isBranch_4 (by decide) ?_
  refine lv_ishr hx hb nd_D_isBranch_6 ?_
  refine lv_bipush (v := (31 : Int32)) hx hb nd_D_isBranch_7 (by decide) ?_
  refine lv_iand hx hb nd_D_isBranch_9 ?_
  refine lv_istore_n (lv' := [(1, .int (((u 0 17) >>> ((16 : Int32) &&& 31)) &&& (31 : Int32))), (0, .ref (h 0))]) hx hb nd_D_isBranch_10 rfl hl (by decide) rfl (fun ls hl => ?_)
  refine lv_aload_n hx hb nd_D_isBranch_11 rfl (lv_at hl 1 rfl) ?_
  refine va_get (D := D) (ci := 5) (v := .int (u 0 18)) (C := nR_D) (T := nT_D) (N := 28) hx hb hts nu_D hown hK hP 0 rfl rfl 18 (by decide) (hts _ gw_432) (fun _ h9 => h9) rfl nd_D_isBranch_12 ?_
  refine lv_if_ne (tgt := 36) hx hb nd_D_isBranch_15 (by decide) (fun h15 => ?_) (fun h15 => ?_)
  · have hw := (if_neg h15).symm.trans hw
    exact J36 (((u 0 17) >>> ((16 : Int32) &&& 31)) &&& (31 : Int32)) H locs ls hP hD hS (lv_sub hl [1, 0] rfl) hw
  have hw := (if_pos h15).symm.trans hw
  refine lv_aload_n hx hb nd_D_isBranch_18 rfl (lv_at hl 1 rfl) ?_
  refine va_get (D := D) (ci := 5) (v := .int (u 0 21)) (C := nR_D) (T := nT_D) (N := 28) hx hb hts nu_D hown hK hP 0 rfl rfl 21 (by decide) (hts _ gw_435) (fun _ h9 => h9) rfl nd_D_isBranch_19 ?_
  refine lv_bipush (v := (8 : Int32)) hx hb nd_D_isBranch_22 (by decide) ?_
  refine lv_icmp_eq (tgt := 78) hx hb nd_D_isBranch_24 (by decide) (fun h24 => ?_) (fun h24 => ?_)
  · have hw := (if_pos h24).symm.trans hw
    refine lv_iconst (v := (1 : Int32)) hx hb nd_D_isBranch_78 (by decide) ?_
    refine lv_goto (tgt := 83) hx hb nd_D_isBranch_79 (by decide) ?_
    exact my_rzo (u' := u) (x := (1 : Int32)) hx hb hr hlocks hK hP hD hS hw rfl nd_D_isBranch_83
  have hw := (if_neg h24).symm.trans hw
  refine lv_aload_n hx hb nd_D_isBranch_27 rfl (lv_at hl 1 rfl) ?_
  refine va_get (D := D) (ci := 5) (v := .int (u 0 21)) (C := nR_D) (T := nT_D) (N := 28) hx hb hts nu_D hown hK hP 0 rfl rfl 21 (by decide) (hts _ gw_435) (fun _ h9 => h9) rfl nd_D_isBranch_28 ?_
  refine lv_bipush (v := (9 : Int32)) hx hb nd_D_isBranch_31 (by decide) ?_
  refine lv_icmp_eq (tgt := 78) hx hb nd_D_isBranch_33 (by decide) (fun h33 => ?_) (fun h33 => ?_)
  · have hw := (if_pos h33).symm.trans hw
    refine lv_iconst (v := (1 : Int32)) hx hb nd_D_isBranch_78 (by decide) ?_
    refine lv_goto (tgt := 83) hx hb nd_D_isBranch_79 (by decide) ?_
    exact my_rzo (u' := u) (x := (1 : Int32)) hx hb hr hlocks hK hP hD hS hw rfl nd_D_isBranch_83
  have hw := (if_neg h33).symm.trans hw
  exact J36 (((u 0 17) >>> ((16 : Int32) &&& 31)) &&& (31 : Int32)) H locs ls hP hD hS (lv_sub hl [1, 0] rfl) hw
set_option maxHeartbeats 4000000 in
set_option maxRecDepth 100000 in
theorem c_D_isKnown (l : Launch) (D : va_G) (h : Nat → Nat) (cA : Nat → ClassId) (u : St) (F : Int32) (hw : f_D_isKnown u = F) : MI nwS vwCl l ny_D_isKnown nw_D_isKnown ({ frames := 1, cells := 0, slots := 0, locals := 21 }) D (tyI cA) (wMD h cA) ([.ref (h 0)] : List Value) u (zb F, u) := by
  refine my_in (gw := GW) (cc := nc_D_isKnown) (maxL := 2) (ret := (some .boolean)) (Qc := fun A => QI vwCl D (tyI cA) (wMD h cA) (zb F, u) A) (by decide) rfl (Nat.le_of_ble_eq_true rfl) ?_
  intro p e s m below meth c A H locs ls hx hb hml hr hts hown hlocks hK hN hA hP hD hS hl
  have hown : s.vm.findClass nR_D = some m.cls := hown
  have hl : lv_has ls 2 [(0, .ref (h 0))] := hl
  have J268 : ∀ (H : Heap) (locs : List Loc) (ls : Array Slot), va_P D vwCl (wMD h cA u) H → va_D A (wMD h cA u) → va_S A s.heap H locs → lv_has ls 2 [(0, .ref (h 0))] → f_D_isKnown_b268 u = F →
      W p l e (headSpec nw_D_isKnown ({ frames := 1, cells := 0, slots := 0, locals := 21 })).room s m ([.ref (h 0)] : List Value).toArray below meth c H locs 0 0 (MQ below (QI vwCl D (tyI cA) (wMD h cA) (zb F, u) A) ([.ref (h 0)] : List Value).toArray s 0 0 A) (F0 m 268 ls []) := by
    intro H locs ls hP hD hS hl hw
    unfold f_D_isKnown_b268 at hw
    refine lv_aload_n hx hb nd_D_isKnown_268 rfl (lv_at hl 0 rfl) ?_
    refine va_get (D := D) (ci := 5) (v := .int (u 0 18)) (C := nR_D) (T := nT_D) (N := 28) hx hb hts nu_D hown hK hP 0 rfl rfl 18 (by decide) (hts _ gw_432) (fun _ h9 => h9) rfl nd_D_isKnown_269 ?_
    refine lv_bipush (v := (46 : Int32)) hx hb nd_D_isKnown_272 (by decide) ?_
    refine lv_icmp_ne (tgt := 281) hx hb nd_D_isKnown_274 (by decide) (fun h274 => ?_) (fun h274 => ?_)
    · have hw := (if_neg h274).symm.trans hw
      refine lv_iconst (v := (0 : Int32)) hx hb nd_D_isKnown_281 (by decide) ?_
      exact my_rzo (u' := u) (x := (0 : Int32)) hx hb hr hlocks hK hP hD hS hw rfl nd_D_isKnown_282
    have hw := (if_pos h274).symm.trans hw
    refine lv_iconst (v := (1 : Int32)) hx hb nd_D_isKnown_277 (by decide) ?_
    refine lv_goto (tgt := 282) hx hb nd_D_isKnown_278 (by decide) ?_
    exact my_rzo (u' := u) (x := (1 : Int32)) hx hb hr hlocks hK hP hD hS hw rfl nd_D_isKnown_282
  have J250 : ∀ (H : Heap) (locs : List Loc) (ls : Array Slot), va_P D vwCl (wMD h cA u) H → va_D A (wMD h cA u) → va_S A s.heap H locs → lv_has ls 2 [(0, .ref (h 0))] → f_D_isKnown_b250 u = F →
      W p l e (headSpec nw_D_isKnown ({ frames := 1, cells := 0, slots := 0, locals := 21 })).room s m ([.ref (h 0)] : List Value).toArray below meth c H locs 0 0 (MQ below (QI vwCl D (tyI cA) (wMD h cA) (zb F, u) A) ([.ref (h 0)] : List Value).toArray s 0 0 A) (F0 m 250 ls []) := by
    intro H locs ls hP hD hS hl hw
    unfold f_D_isKnown_b250 at hw
    refine lv_aload_n hx hb nd_D_isKnown_250 rfl (lv_at hl 0 rfl) ?_
    refine va_get (D := D) (ci := 5) (v := .int (u 0 18)) (C := nR_D) (T := nT_D) (N := 28) hx hb hts nu_D hown hK hP 0 rfl rfl 18 (by decide) (hts _ gw_432) (fun _ h9 => h9) rfl nd_D_isKnown_251 ?_
    refine lv_bipush (v := (40 : Int32)) hx hb nd_D_isKnown_254 (by decide) ?_
    refine lv_icmp_lt (tgt := 268) hx hb nd_D_isKnown_256 (by decide) (fun h256 => ?_) (fun h256 => ?_)
    · have hw := (if_pos h256).symm.trans hw
      exact J268 H locs ls hP hD hS (lv_sub hl [0] rfl) hw
    have hw := (if_neg h256).symm.trans hw
    refine lv_aload_n hx hb nd_D_isKnown_259 rfl (lv_at hl 0 rfl) ?_
    refine va_get (D := D) (ci := 5) (v := .int (u 0 18)) (C := nR_D) (T := nT_D) (N := 28) hx hb hts nu_D hown hK hP 0 rfl rfl 18 (by decide) (hts _ gw_432) (fun _ h9 => h9) rfl nd_D_isKnown_260 ?_
    refine lv_bipush (v := (43 : Int32)) hx hb nd_D_isKnown_263 (by decide) ?_
    refine lv_icmp_le (tgt := 277) hx hb nd_D_isKnown_265 (by decide) (fun h265 => ?_) (fun h265 => ?_)
    · have hw := (if_pos h265).symm.trans hw
      refine lv_iconst (v := (1 : Int32)) hx hb nd_D_isKnown_277 (by decide) ?_
      refine lv_goto (tgt := 282) hx hb nd_D_isKnown_278 (by decide) ?_
      exact my_rzo (u' := u) (x := (1 : Int32)) hx hb hr hlocks hK hP hD hS hw rfl nd_D_isKnown_282
    have hw := (if_neg h265).symm.trans hw
    exact J268 H locs ls hP hD hS (lv_sub hl [0] rfl) hw
  have J232 : ∀ (H : Heap) (locs : List Loc) (ls : Array Slot), va_P D vwCl (wMD h cA u) H → va_D A (wMD h cA u) → va_S A s.heap H locs → lv_has ls 2 [(0, .ref (h 0))] → f_D_isKnown_b232 u = F →
      W p l e (headSpec nw_D_isKnown ({ frames := 1, cells := 0, slots := 0, locals := 21 })).room s m ([.ref (h 0)] : List Value).toArray below meth c H locs 0 0 (MQ below (QI vwCl D (tyI cA) (wMD h cA) (zb F, u) A) ([.ref (h 0)] : List Value).toArray s 0 0 A) (F0 m 232 ls []) := by
    intro H locs ls hP hD hS hl hw
    unfold f_D_isKnown_b232 at hw
    refine lv_aload_n hx hb nd_D_isKnown_232 rfl (lv_at hl 0 rfl) ?_
    refine va_get (D := D) (ci := 5) (v := .int (u 0 18)) (C := nR_D) (T := nT_D) (N := 28) hx hb hts nu_D hown hK hP 0 rfl rfl 18 (by decide) (hts _ gw_432) (fun _ h9 => h9) rfl nd_D_isKnown_233 ?_
    refine lv_bipush (v := (32 : Int32)) hx hb nd_D_isKnown_236 (by decide) ?_
    refine lv_icmp_lt (tgt := 250) hx hb nd_D_isKnown_238 (by decide) (fun h238 => ?_) (fun h238 => ?_)
    · have hw := (if_pos h238).symm.trans hw
      exact J250 H locs ls hP hD hS (lv_sub hl [0] rfl) hw
    have hw := (if_neg h238).symm.trans hw
    refine lv_aload_n hx hb nd_D_isKnown_241 rfl (lv_at hl 0 rfl) ?_
    refine va_get (D := D) (ci := 5) (v := .int (u 0 18)) (C := nR_D) (T := nT_D) (N := 28) hx hb hts nu_D hown hK hP 0 rfl rfl 18 (by decide) (hts _ gw_432) (fun _ h9 => h9) rfl nd_D_isKnown_242 ?_
    refine lv_bipush (v := (38 : Int32)) hx hb nd_D_isKnown_245 (by decide) ?_
    refine lv_icmp_le (tgt := 277) hx hb nd_D_isKnown_247 (by decide) (fun h247 => ?_) (fun h247 => ?_)
    · have hw := (if_pos h247).symm.trans hw
      refine lv_iconst (v := (1 : Int32)) hx hb nd_D_isKnown_277 (by decide) ?_
      refine lv_goto (tgt := 282) hx hb nd_D_isKnown_278 (by decide) ?_
      exact my_rzo (u' := u) (x := (1 : Int32)) hx hb hr hlocks hK hP hD hS hw rfl nd_D_isKnown_282
    have hw := (if_neg h247).symm.trans hw
    exact J250 H locs ls hP hD hS (lv_sub hl [0] rfl) hw
  have J199 : ∀ (x1 : Int32) (H : Heap) (locs : List Loc) (ls : Array Slot), va_P D vwCl (wMD h cA u) H → va_D A (wMD h cA u) → va_S A s.heap H locs → lv_has ls 2 [(0, .ref (h 0)), (1, .int x1)] → f_D_isKnown_b199 x1 u = F →
      W p l e (headSpec nw_D_isKnown ({ frames := 1, cells := 0, slots := 0, locals := 21 })).room s m ([.ref (h 0)] : List Value).toArray below meth c H locs 0 0 (MQ below (QI vwCl D (tyI cA) (wMD h cA) (zb F, u) A) ([.ref (h 0)] : List Value).toArray s 0 0 A) (F0 m 199 ls []) := by
    intro x1 H locs ls hP hD hS hl hw
    unfold f_D_isKnown_b199 at hw
    refine lv_aload_n hx hb nd_D_isKnown_199 rfl (lv_at hl 0 rfl) ?_
    refine va_get (D := D) (ci := 5) (v := .int (u 0 18)) (C := nR_D) (T := nT_D) (N := 28) hx hb hts nu_D hown hK hP 0 rfl rfl 18 (by decide) (hts _ gw_432) (fun _ h9 => h9) rfl nd_D_isKnown_200 ?_
    refine lv_bipush (v := (16 : Int32)) hx hb nd_D_isKnown_203 (by decide) ?_
    refine lv_icmp_ne (tgt := 232) hx hb nd_D_isKnown_205 (by decide) (fun h205 => ?_) (fun h205 => ?_)
    · have hw := (if_neg h205).symm.trans hw
      exact J232 H locs ls hP hD hS (lv_sub hl [0] rfl) hw
    have hw := (if_pos h205).symm.trans hw
    refine lv_iload_n hx hb nd_D_isKnown_208 rfl (lv_at hl 1 rfl) ?_
    refine lv_if_eq (tgt := 277) hx hb nd_D_isKnown_209 (by decide) (fun h209 => ?_) (fun h209 => ?_)
    · have hw := (if_pos h209).symm.trans hw
      refine lv_iconst (v := (1 : Int32)) hx hb nd_D_isKnown_277 (by decide) ?_
      refine lv_goto (tgt := 282) hx hb nd_D_isKnown_278 (by decide) ?_
      exact my_rzo (u' := u) (x := (1 : Int32)) hx hb hr hlocks hK hP hD hS hw rfl nd_D_isKnown_282
    have hw := (if_neg h209).symm.trans hw
    refine lv_iload_n hx hb nd_D_isKnown_212 rfl (lv_at hl 1 rfl) ?_
    refine lv_iconst (v := (4 : Int32)) hx hb nd_D_isKnown_213 (by decide) ?_
    refine lv_icmp_eq (tgt := 277) hx hb nd_D_isKnown_214 (by decide) (fun h214 => ?_) (fun h214 => ?_)
    · have hw := (if_pos h214).symm.trans hw
      refine lv_iconst (v := (1 : Int32)) hx hb nd_D_isKnown_277 (by decide) ?_
      refine lv_goto (tgt := 282) hx hb nd_D_isKnown_278 (by decide) ?_
      exact my_rzo (u' := u) (x := (1 : Int32)) hx hb hr hlocks hK hP hD hS hw rfl nd_D_isKnown_282
    have hw := (if_neg h214).symm.trans hw
    refine lv_iload_n hx hb nd_D_isKnown_217 rfl (lv_at hl 1 rfl) ?_
    refine lv_bipush (v := (16 : Int32)) hx hb nd_D_isKnown_218 (by decide) ?_
    refine lv_icmp_ne (tgt := 232) hx hb nd_D_isKnown_220 (by decide) (fun h220 => ?_) (fun h220 => ?_)
    · have hw := (if_neg h220).symm.trans hw
      exact J232 H locs ls hP hD hS (lv_sub hl [0] rfl) hw
    have hw := (if_pos h220).symm.trans hw
    refine lv_aload_n hx hb nd_D_isKnown_223 rfl (lv_at hl 0 rfl) ?_
    refine va_get (D := D) (ci := 5) (v := .int (u 0 21)) (C := nR_D) (T := nT_D) (N := 28) hx hb hts nu_D hown hK hP 0 rfl rfl 21 (by decide) (hts _ gw_435) (fun _ h9 => h9) rfl nd_D_isKnown_224 ?_
    refine lv_bipush (v := (16 : Int32)) hx hb nd_D_isKnown_227 (by decide) ?_
    refine lv_icmp_eq (tgt := 277) hx hb nd_D_isKnown_229 (by decide) (fun h229 => ?_) (fun h229 => ?_)
    · have hw := (if_pos h229).symm.trans hw
      refine lv_iconst (v := (1 : Int32)) hx hb nd_D_isKnown_277 (by decide) ?_
      refine lv_goto (tgt := 282) hx hb nd_D_isKnown_278 (by decide) ?_
      exact my_rzo (u' := u) (x := (1 : Int32)) hx hb hr hlocks hK hP hD hS hw rfl nd_D_isKnown_282
    have hw := (if_neg h229).symm.trans hw
    exact J232 H locs ls hP hD hS (lv_sub hl [0] rfl) hw
  have J182 : ∀ (x1 : Int32) (H : Heap) (locs : List Loc) (ls : Array Slot), va_P D vwCl (wMD h cA u) H → va_D A (wMD h cA u) → va_S A s.heap H locs → lv_has ls 2 [(0, .ref (h 0)), (1, .int x1)] → f_D_isKnown_b182 x1 u = F →
      W p l e (headSpec nw_D_isKnown ({ frames := 1, cells := 0, slots := 0, locals := 21 })).room s m ([.ref (h 0)] : List Value).toArray below meth c H locs 0 0 (MQ below (QI vwCl D (tyI cA) (wMD h cA) (zb F, u) A) ([.ref (h 0)] : List Value).toArray s 0 0 A) (F0 m 182 ls []) := by
    intro x1 H locs ls hP hD hS hl hw
    unfold f_D_isKnown_b182 at hw
    refine lv_aload_n hx hb nd_D_isKnown_182 rfl (lv_at hl 0 rfl) ?_
    refine va_get (D := D) (ci := 5) (v := .int (u 0 18)) (C := nR_D) (T := nT_D) (N := 28) hx hb hts nu_D hown hK hP 0 rfl rfl 18 (by decide) (hts _ gw_432) (fun _ h9 => h9) rfl nd_D_isKnown_183 ?_
    refine lv_iconst (v := (2 : Int32)) hx hb nd_D_isKnown_186 (by decide) ?_
    refine lv_icmp_lt (tgt := 199) hx hb nd_D_isKnown_187 (by decide) (fun h187 => ?_) (fun h187 => ?_)
    · have hw := (if_pos h187).symm.trans hw
      exact J199 x1 H locs ls hP hD hS (lv_sub hl [0, 1] rfl) hw
    have hw := (if_neg h187).symm.trans hw
    refine lv_aload_n hx hb nd_D_isKnown_190 rfl (lv_at hl 0 rfl) ?_
    refine va_get (D := D) (ci := 5) (v := .int (u 0 18)) (C := nR_D) (T := nT_D) (N := 28) hx hb hts nu_D hown hK hP 0 rfl rfl 18 (by decide) (hts _ gw_432) (fun _ h9 => h9) rfl nd_D_isKnown_191 ?_
    refine lv_bipush (v := (15 : Int32)) hx hb nd_D_isKnown_194 (by decide) ?_
    refine lv_icmp_le (tgt := 277) hx hb nd_D_isKnown_196 (by decide) (fun h196 => ?_) (fun h196 => ?_)
    · have hw := (if_pos h196).symm.trans hw
      refine lv_iconst (v := (1 : Int32)) hx hb nd_D_isKnown_277 (by decide) ?_
      refine lv_goto (tgt := 282) hx hb nd_D_isKnown_278 (by decide) ?_
      exact my_rzo (u' := u) (x := (1 : Int32)) hx hb hr hlocks hK hP hD hS hw rfl nd_D_isKnown_282
    have hw := (if_neg h196).symm.trans hw
    exact J199 x1 H locs ls hP hD hS (lv_sub hl [0, 1] rfl) hw
  have J132 : ∀ (H : Heap) (locs : List Loc) (ls : Array Slot), va_P D vwCl (wMD h cA u) H → va_D A (wMD h cA u) → va_S A s.heap H locs → lv_has ls 2 [(0, .ref (h 0))] → f_D_isKnown_b132 u = F →
      W p l e (headSpec nw_D_isKnown ({ frames := 1, cells := 0, slots := 0, locals := 21 })).room s m ([.ref (h 0)] : List Value).toArray below meth c H locs 0 0 (MQ below (QI vwCl D (tyI cA) (wMD h cA) (zb F, u) A) ([.ref (h 0)] : List Value).toArray s 0 0 A) (F0 m 132 ls []) := by
    intro H locs ls hP hD hS hl hw
    unfold f_D_isKnown_b132 at hw
    refine lv_aload_n hx hb nd_D_isKnown_132 rfl (lv_at hl 0 rfl) ?_
    refine va_get (D := D) (ci := 5) (v := .int (u 0 21)) (C := nR_D) (T := nT_D) (N := 28) hx hb hts nu_D hown hK hP 0 rfl rfl 21 (by decide) (hts _ gw_435) (fun _ h9 => h9) rfl nd_D_isKnown_133 ?_
    refine lv_bipush (v := (42 : Int32)) hx hb nd_D_isKnown_136 (by decide) ?_
    refine lv_icmp_eq (tgt := 150) hx hb nd_D_isKnown_138 (by decide) (fun h138 => ?_) (fun h138 => ?_)
    · have hw := (if_pos h138).symm.trans hw
      refine lv_iconst (v := (1 : Int32)) hx hb nd_D_isKnown_150 (by decide) ?_
      refine lv_goto (tgt := 155) hx hb nd_D_isKnown_151 (by decide) ?_
      exact my_rzo (u' := u) (x := (1 : Int32)) hx hb hr hlocks hK hP hD hS hw rfl nd_D_isKnown_155
    have hw := (if_neg h138).symm.trans hw
    refine lv_aload_n hx hb nd_D_isKnown_141 rfl (lv_at hl 0 rfl) ?_
    refine va_get (D := D) (ci := 5) (v := .int (u 0 21)) (C := nR_D) (T := nT_D) (N := 28) hx hb hts nu_D hown hK hP 0 rfl rfl 21 (by decide) (hts _ gw_435) (fun _ h9 => h9) rfl nd_D_isKnown_142 ?_
    refine lv_bipush (v := (43 : Int32)) hx hb nd_D_isKnown_145 (by decide) ?_
    refine lv_icmp_ne (tgt := 154) hx hb nd_D_isKnown_147 (by decide) (fun h147 => ?_) (fun h147 => ?_)
    · have hw := (if_neg h147).symm.trans hw
      refine lv_iconst (v := (0 : Int32)) hx hb nd_D_isKnown_154 (by decide) ?_
      exact my_rzo (u' := u) (x := (0 : Int32)) hx hb hr hlocks hK hP hD hS hw rfl nd_D_isKnown_155
    have hw := (if_pos h147).symm.trans hw
    refine lv_iconst (v := (1 : Int32)) hx hb nd_D_isKnown_150 (by decide) ?_
    refine lv_goto (tgt := 155) hx hb nd_D_isKnown_151 (by decide) ?_
    exact my_rzo (u' := u) (x := (1 : Int32)) hx hb hr hlocks hK hP hD hS hw rfl nd_D_isKnown_155
  have J114 : ∀ (H : Heap) (locs : List Loc) (ls : Array Slot), va_P D vwCl (wMD h cA u) H → va_D A (wMD h cA u) → va_S A s.heap H locs → lv_has ls 2 [(0, .ref (h 0))] → f_D_isKnown_b114 u = F →
      W p l e (headSpec nw_D_isKnown ({ frames := 1, cells := 0, slots := 0, locals := 21 })).room s m ([.ref (h 0)] : List Value).toArray below meth c H locs 0 0 (MQ below (QI vwCl D (tyI cA) (wMD h cA) (zb F, u) A) ([.ref (h 0)] : List Value).toArray s 0 0 A) (F0 m 114 ls []) := by
    intro H locs ls hP hD hS hl hw
    unfold f_D_isKnown_b114 at hw
    refine lv_aload_n hx hb nd_D_isKnown_114 rfl (lv_at hl 0 rfl) ?_
    refine va_get (D := D) (ci := 5) (v := .int (u 0 21)) (C := nR_D) (T := nT_D) (N := 28) hx hb hts nu_D hown hK hP 0 rfl rfl 21 (by decide) (hts _ gw_435) (fun _ h9 => h9) rfl nd_D_isKnown_115 ?_
    refine lv_bipush (v := (32 : Int32)) hx hb nd_D_isKnown_118 (by decide) ?_
    refine lv_icmp_lt (tgt := 132) hx hb nd_D_isKnown_120 (by decide) (fun h120 => ?_) (fun h120 => ?_)
    · have hw := (if_pos h120).symm.trans hw
      exact J132 H locs ls hP hD hS (lv_sub hl [0] rfl) hw
    have hw := (if_neg h120).symm.trans hw
    refine lv_aload_n hx hb nd_D_isKnown_123 rfl (lv_at hl 0 rfl) ?_
    refine va_get (D := D) (ci := 5) (v := .int (u 0 21)) (C := nR_D) (T := nT_D) (N := 28) hx hb hts nu_D hown hK hP 0 rfl rfl 21 (by decide) (hts _ gw_435) (fun _ h9 => h9) rfl nd_D_isKnown_124 ?_
    refine lv_bipush (v := (39 : Int32)) hx hb nd_D_isKnown_127 (by decide) ?_
    refine lv_icmp_le (tgt := 150) hx hb nd_D_isKnown_129 (by decide) (fun h129 => ?_) (fun h129 => ?_)
    · have hw := (if_pos h129).symm.trans hw
      refine lv_iconst (v := (1 : Int32)) hx hb nd_D_isKnown_150 (by decide) ?_
      refine lv_goto (tgt := 155) hx hb nd_D_isKnown_151 (by decide) ?_
      exact my_rzo (u' := u) (x := (1 : Int32)) hx hb hr hlocks hK hP hD hS hw rfl nd_D_isKnown_155
    have hw := (if_neg h129).symm.trans hw
    exact J132 H locs ls hP hD hS (lv_sub hl [0] rfl) hw
  have J96 : ∀ (H : Heap) (locs : List Loc) (ls : Array Slot), va_P D vwCl (wMD h cA u) H → va_D A (wMD h cA u) → va_S A s.heap H locs → lv_has ls 2 [(0, .ref (h 0))] → f_D_isKnown_b96 u = F →
      W p l e (headSpec nw_D_isKnown ({ frames := 1, cells := 0, slots := 0, locals := 21 })).room s m ([.ref (h 0)] : List Value).toArray below meth c H locs 0 0 (MQ below (QI vwCl D (tyI cA) (wMD h cA) (zb F, u) A) ([.ref (h 0)] : List Value).toArray s 0 0 A) (F0 m 96 ls []) := by
    intro H locs ls hP hD hS hl hw
    unfold f_D_isKnown_b96 at hw
    refine lv_aload_n hx hb nd_D_isKnown_96 rfl (lv_at hl 0 rfl) ?_
    refine va_get (D := D) (ci := 5) (v := .int (u 0 21)) (C := nR_D) (T := nT_D) (N := 28) hx hb hts nu_D hown hK hP 0 rfl rfl 21 (by decide) (hts _ gw_435) (fun _ h9 => h9) rfl nd_D_isKnown_97 ?_
    refine lv_bipush (v := (24 : Int32)) hx hb nd_D_isKnown_100 (by decide) ?_
    refine lv_icmp_lt (tgt := 114) hx hb nd_D_isKnown_102 (by decide) (fun h102 => ?_) (fun h102 => ?_)
    · have hw := (if_pos h102).symm.trans hw
      exact J114 H locs ls hP hD hS (lv_sub hl [0] rfl) hw
    have hw := (if_neg h102).symm.trans hw
    refine lv_aload_n hx hb nd_D_isKnown_105 rfl (lv_at hl 0 rfl) ?_
    refine va_get (D := D) (ci := 5) (v := .int (u 0 21)) (C := nR_D) (T := nT_D) (N := 28) hx hb hts nu_D hown hK hP 0 rfl rfl 21 (by decide) (hts _ gw_435) (fun _ h9 => h9) rfl nd_D_isKnown_106 ?_
    refine lv_bipush (v := (27 : Int32)) hx hb nd_D_isKnown_109 (by decide) ?_
    refine lv_icmp_le (tgt := 150) hx hb nd_D_isKnown_111 (by decide) (fun h111 => ?_) (fun h111 => ?_)
    · have hw := (if_pos h111).symm.trans hw
      refine lv_iconst (v := (1 : Int32)) hx hb nd_D_isKnown_150 (by decide) ?_
      refine lv_goto (tgt := 155) hx hb nd_D_isKnown_151 (by decide) ?_
      exact my_rzo (u' := u) (x := (1 : Int32)) hx hb hr hlocks hK hP hD hS hw rfl nd_D_isKnown_155
    have hw := (if_neg h111).symm.trans hw
    exact J114 H locs ls hP hD hS (lv_sub hl [0] rfl) hw
  have J37 : ∀ (y0 : Int32) (H : Heap) (locs : List Loc) (ls : Array Slot), va_P D vwCl (wMD h cA u) H → va_D A (wMD h cA u) → va_S A s.heap H locs → lv_has ls 2 [(0, .ref (h 0))] → f_D_isKnown_b37 y0 u = F →
      W p l e (headSpec nw_D_isKnown ({ frames := 1, cells := 0, slots := 0, locals := 21 })).room s m ([.ref (h 0)] : List Value).toArray below meth c H locs 0 0 (MQ below (QI vwCl D (tyI cA) (wMD h cA) (zb F, u) A) ([.ref (h 0)] : List Value).toArray s 0 0 A) (F0 m 37 ls [.int y0]) := by
    intro y0 H locs ls hP hD hS hl hw
    unfold f_D_isKnown_b37 at hw
    refine lv_istore_n (lv' := [(1, .int y0), (0, .ref (h 0))]) hx hb nd_D_isKnown_37 rfl hl (by decide) rfl (fun ls hl => ?_)
    refine lv_iload_n hx hb nd_D_isKnown_38 rfl (lv_at hl 0 rfl) ?_
    refine lv_if_ne (tgt := 150) hx hb nd_D_isKnown_39 (by decide) (fun h39 => ?_) (fun h39 => ?_)
    · have hw := (if_neg h39).symm.trans hw
      refine lv_iconst (v := (1 : Int32)) hx hb nd_D_isKnown_150 (by decide) ?_
      refine lv_goto (tgt := 155) hx hb nd_D_isKnown_151 (by decide) ?_
      exact my_rzo (u' := u) (x := (1 : Int32)) hx hb hr hlocks hK hP hD hS hw rfl nd_D_isKnown_155
    have hw := (if_pos h39).symm.trans hw
    refine lv_aload_n hx hb nd_D_isKnown_42 rfl (lv_at hl 1 rfl) ?_
    refine va_get (D := D) (ci := 5) (v := .int (u 0 21)) (C := nR_D) (T := nT_D) (N := 28) hx hb hts nu_D hown hK hP 0 rfl rfl 21 (by decide) (hts _ gw_435) (fun _ h9 => h9) rfl nd_D_isKnown_43 ?_
    refine lv_bipush (v := (8 : Int32)) hx hb nd_D_isKnown_46 (by decide) ?_
    refine lv_icmp_eq (tgt := 150) hx hb nd_D_isKnown_48 (by decide) (fun h48 => ?_) (fun h48 => ?_)
    · have hw := (if_pos h48).symm.trans hw
      refine lv_iconst (v := (1 : Int32)) hx hb nd_D_isKnown_150 (by decide) ?_
      refine lv_goto (tgt := 155) hx hb nd_D_isKnown_151 (by decide) ?_
      exact my_rzo (u' := u) (x := (1 : Int32)) hx hb hr hlocks hK hP hD hS hw rfl nd_D_isKnown_155
    have hw := (if_neg h48).symm.trans hw
    refine lv_aload_n hx hb nd_D_isKnown_51 rfl (lv_at hl 1 rfl) ?_
    refine va_get (D := D) (ci := 5) (v := .int (u 0 21)) (C := nR_D) (T := nT_D) (N := 28) hx hb hts nu_D hown hK hP 0 rfl rfl 21 (by decide) (hts _ gw_435) (fun _ h9 => h9) rfl nd_D_isKnown_52 ?_
    refine lv_bipush (v := (9 : Int32)) hx hb nd_D_isKnown_55 (by decide) ?_
    refine lv_icmp_eq (tgt := 150) hx hb nd_D_isKnown_57 (by decide) (fun h57 => ?_) (fun h57 => ?_)
    · have hw := (if_pos h57).symm.trans hw
      refine lv_iconst (v := (1 : Int32)) hx hb nd_D_isKnown_150 (by decide) ?_
      refine lv_goto (tgt := 155) hx hb nd_D_isKnown_151 (by decide) ?_
      exact my_rzo (u' := u) (x := (1 : Int32)) hx hb hr hlocks hK hP hD hS hw rfl nd_D_isKnown_155
    have hw := (if_neg h57).symm.trans hw
    refine lv_aload_n hx hb nd_D_isKnown_60 rfl (lv_at hl 1 rfl) ?_
    refine va_get (D := D) (ci := 5) (v := .int (u 0 21)) (C := nR_D) (T := nT_D) (N := 28) hx hb hts nu_D hown hK hP 0 rfl rfl 21 (by decide) (hts _ gw_435) (fun _ h9 => h9) rfl nd_D_isKnown_61 ?_
    refine lv_bipush (v := (12 : Int32)) hx hb nd_D_isKnown_64 (by decide) ?_
    refine lv_icmp_eq (tgt := 150) hx hb nd_D_isKnown_66 (by decide) (fun h66 => ?_) (fun h66 => ?_)
    · have hw := (if_pos h66).symm.trans hw
      refine lv_iconst (v := (1 : Int32)) hx hb nd_D_isKnown_150 (by decide) ?_
      refine lv_goto (tgt := 155) hx hb nd_D_isKnown_151 (by decide) ?_
      exact my_rzo (u' := u) (x := (1 : Int32)) hx hb hr hlocks hK hP hD hS hw rfl nd_D_isKnown_155
    have hw := (if_neg h66).symm.trans hw
    refine lv_aload_n hx hb nd_D_isKnown_69 rfl (lv_at hl 1 rfl) ?_
    refine va_get (D := D) (ci := 5) (v := .int (u 0 21)) (C := nR_D) (T := nT_D) (N := 28) hx hb hts nu_D hown hK hP 0 rfl rfl 21 (by decide) (hts _ gw_435) (fun _ h9 => h9) rfl nd_D_isKnown_70 ?_
    refine lv_bipush (v := (13 : Int32)) hx hb nd_D_isKnown_73 (by decide) ?_
    refine lv_icmp_eq (tgt := 150) hx hb nd_D_isKnown_75 (by decide) (fun h75 => ?_) (fun h75 => ?_)
    · have hw := (if_pos h75).symm.trans hw
      refine lv_iconst (v := (1 : Int32)) hx hb nd_D_isKnown_150 (by decide) ?_
      refine lv_goto (tgt := 155) hx hb nd_D_isKnown_151 (by decide) ?_
      exact my_rzo (u' := u) (x := (1 : Int32)) hx hb hr hlocks hK hP hD hS hw rfl nd_D_isKnown_155
    have hw := (if_neg h75).symm.trans hw
    refine lv_aload_n hx hb nd_D_isKnown_78 rfl (lv_at hl 1 rfl) ?_
    refine va_get (D := D) (ci := 5) (v := .int (u 0 21)) (C := nR_D) (T := nT_D) (N := 28) hx hb hts nu_D hown hK hP 0 rfl rfl 21 (by decide) (hts _ gw_435) (fun _ h9 => h9) rfl nd_D_isKnown_79 ?_
    refine lv_bipush (v := (16 : Int32)) hx hb nd_D_isKnown_82 (by decide) ?_
    refine lv_icmp_lt (tgt := 96) hx hb nd_D_isKnown_84 (by decide) (fun h84 => ?_) (fun h84 => ?_)
    · have hw := (if_pos h84).symm.trans hw
      exact J96 H locs ls hP hD hS (lv_sub hl [1] rfl) hw
    have hw := (if_neg h84).symm.trans hw
    refine lv_aload_n hx hb nd_D_isKnown_87 rfl (lv_at hl 1 rfl) ?_
    refine va_get (D := D) (ci := 5) (v := .int (u 0 21)) (C := nR_D) (T := nT_D) (N := 28) hx hb hts nu_D hown hK hP 0 rfl rfl 21 (by decide) (hts _ gw_435) (fun _ h9 => h9) rfl nd_D_isKnown_88 ?_
    refine lv_bipush (v := (19 : Int32)) hx hb nd_D_isKnown_91 (by decide) ?_
    refine lv_icmp_le (tgt := 150) hx hb nd_D_isKnown_93 (by decide) (fun h93 => ?_) (fun h93 => ?_)
    · have hw := (if_pos h93).symm.trans hw
      refine lv_iconst (v := (1 : Int32)) hx hb nd_D_isKnown_150 (by decide) ?_
      refine lv_goto (tgt := 155) hx hb nd_D_isKnown_151 (by decide) ?_
      exact my_rzo (u' := u) (x := (1 : Int32)) hx hb hr hlocks hK hP hD hS hw rfl nd_D_isKnown_155
    have hw := (if_neg h93).symm.trans hw
    exact J96 H locs ls hP hD hS (lv_sub hl [1] rfl) hw
  have J36 : ∀ (H : Heap) (locs : List Loc) (ls : Array Slot), va_P D vwCl (wMD h cA u) H → va_D A (wMD h cA u) → va_S A s.heap H locs → lv_has ls 2 [(0, .ref (h 0))] → f_D_isKnown_b36 u = F →
      W p l e (headSpec nw_D_isKnown ({ frames := 1, cells := 0, slots := 0, locals := 21 })).room s m ([.ref (h 0)] : List Value).toArray below meth c H locs 0 0 (MQ below (QI vwCl D (tyI cA) (wMD h cA) (zb F, u) A) ([.ref (h 0)] : List Value).toArray s 0 0 A) (F0 m 36 ls []) := by
    intro H locs ls hP hD hS hl hw
    unfold f_D_isKnown_b36 at hw
    refine lv_iconst (v := (0 : Int32)) hx hb nd_D_isKnown_36 (by decide) ?_
    exact J37 (0 : Int32) H locs ls hP hD hS (lv_sub hl [0] rfl) hw
  unfold f_D_isKnown at hw
  refine lv_aload_n hx hb nd_D_isKnown_0 rfl (lv_at hl 0 rfl) ?_
  refine va_get (D := D) (ci := 5) (v := .int (u 0 18)) (C := nR_D) (T := nT_D) (N := 28) hx hb hts nu_D hown hK hP 0 rfl rfl 18 (by decide) (hts _ gw_432) (fun _ h9 => h9) rfl nd_D_isKnown_1 ?_
  refine lv_if_ne (tgt := 156) hx hb nd_D_isKnown_4 (by decide) (fun h4 => ?_) (fun h4 => ?_)
  · have hw := (if_neg h4).symm.trans hw
    refine lv_aload_n hx hb nd_D_isKnown_156 rfl (lv_at hl 0 rfl) ?_
    refine va_get (D := D) (ci := 5) (v := .int (u 0 17)) (C := nR_D) (T := nT_D) (N := 28) hx hb hts nu_D hown hK hP 0 rfl rfl 17 (by decide) (hts _ gw_431) (fun _ h9 => h9) rfl nd_D_isKnown_157 ?_
    refine lv_bipush (v := (21 : Int32)) hx hb nd_D_isKnown_160 (by decide) ?_
    refine lv_ishr hx hb nd_D_isKnown_162 ?_
    refine lv_bipush (v := (31 : Int32)) hx hb nd_D_isKnown_163 (by decide) ?_
    refine lv_iand hx hb nd_D_isKnown_165 ?_
    refine lv_istore_n (lv' := [(1, .int (((u 0 17) >>> ((21 : Int32) &&& 31)) &&& (31 : Int32))), (0, .ref (h 0))]) hx hb nd_D_isKnown_166 rfl hl (by decide) rfl (fun ls hl => ?_)
    refine lv_aload_n hx hb nd_D_isKnown_167 rfl (lv_at hl 1 rfl) ?_
    refine va_get (D := D) (ci := 5) (v := .int (u 0 18)) (C := nR_D) (T := nT_D) (N := 28) hx hb hts nu_D hown hK hP 0 rfl rfl 18 (by decide) (hts _ gw_432) (fun _ h9 => h9) rfl nd_D_isKnown_168 ?_
    refine lv_iconst (v := (1 : Int32)) hx hb nd_D_isKnown_171 (by decide) ?_
    refine lv_icmp_ne (tgt := 182) hx hb nd_D_isKnown_172 (by decide) (fun h172 => ?_) (fun h172 => ?_)
    · have hw := (if_neg h172).symm.trans hw
      exact J182 (((u 0 17) >>> ((21 : Int32) &&& 31)) &&& (31 : Int32)) H locs ls hP hD hS (lv_sub hl [1, 0] rfl) hw
    have hw := (if_pos h172).symm.trans hw
    refine lv_aload_n hx hb nd_D_isKnown_175 rfl (lv_at hl 1 rfl) ?_
    refine my_ci (wd := wMD h cA) (r := zb (f_D_isBranch u)) (u' := u) (va_runV (As := []) (rest := []) ⟨hx, hb, hml, hown, hts⟩ (c_D_isBranch l D h cA u _ rfl _) ⟨callB_of 0 hts (gw_in gw_570) rfl rfl rfl (hts _ gw_6) (hts _ gw_567) nh_D_isBranch ⟨Nat.le_of_ble_eq_true rfl, Nat.le_of_ble_eq_true rfl⟩, (hts _ gw_569), (hts _ gw_568)⟩ (my_preV nwOk hP hK hD hN (va_recv hK hP (ci := 5) (q0 := 0) rfl rfl)) rfl rfl hl.1 rfl (lv_room (Nat.le_of_ble_eq_true rfl)) nd_D_isKnown_176 ⟨Nat.le_of_ble_eq_true rfl, Nat.le_of_ble_eq_true rfl⟩) hD hS hA (fun H locs hP hD hS => ?_)
    refine lv_if_ne (tgt := 277) hx hb nd_D_isKnown_179 (by decide) (fun h179 => ?_) (fun h179 => ?_)
    · have hw := (if_neg h179).symm.trans hw
      refine lv_iconst (v := (1 : Int32)) hx hb nd_D_isKnown_277 (by decide) ?_
      refine lv_goto (tgt := 282) hx hb nd_D_isKnown_278 (by decide) ?_
      exact my_rzo (u' := u) (x := (1 : Int32)) hx hb hr hlocks hK hP hD hS hw rfl nd_D_isKnown_282
    have hw := (if_pos h179).symm.trans hw
    exact J182 (((u 0 17) >>> ((21 : Int32) &&& 31)) &&& (31 : Int32)) H locs ls hP hD hS (lv_sub hl [1, 0] rfl) hw
  have hw := (if_pos h4).symm.trans hw
  refine lv_aload_n hx hb nd_D_isKnown_7 rfl (lv_at hl 0 rfl) ?_
  refine va_get (D := D) (ci := 5) (v := .int (u 0 21)) (C := nR_D) (T := nT_D) (N := 28) hx hb hts nu_D hown hK hP 0 rfl rfl 21 (by decide) (hts _ gw_435) (fun _ h9 => h9) rfl nd_D_isKnown_8 ?_
  refine lv_bipush (v := (7 : Int32)) hx hb nd_D_isKnown_11 (by decide) ?_
  refine lv_icmp_gt (tgt := 36) hx hb nd_D_isKnown_13 (by decide) (fun h13 => ?_) (fun h13 => ?_)
  · have hw := (if_pos h13).symm.trans hw
    exact J36 H locs ls hP hD hS (lv_sub hl [0] rfl) hw
  have hw := (if_neg h13).symm.trans hw
  refine lv_aload_n hx hb nd_D_isKnown_16 rfl (lv_at hl 0 rfl) ?_
  refine va_get (D := D) (ci := 5) (v := .int (u 0 21)) (C := nR_D) (T := nT_D) (N := 28) hx hb hts nu_D hown hK hP 0 rfl rfl 21 (by decide) (hts _ gw_435) (fun _ h9 => h9) rfl nd_D_isKnown_17 ?_
  refine lv_iconst (v := (1 : Int32)) hx hb nd_D_isKnown_20 (by decide) ?_
  refine lv_icmp_eq (tgt := 36) hx hb nd_D_isKnown_21 (by decide) (fun h21 => ?_) (fun h21 => ?_)
  · have hw := (if_pos h21).symm.trans hw
    exact J36 H locs ls hP hD hS (lv_sub hl [0] rfl) hw
  have hw := (if_neg h21).symm.trans hw
  refine lv_aload_n hx hb nd_D_isKnown_24 rfl (lv_at hl 0 rfl) ?_
  refine va_get (D := D) (ci := 5) (v := .int (u 0 21)) (C := nR_D) (T := nT_D) (N := 28) hx hb hts nu_D hown hK hP 0 rfl rfl 21 (by decide) (hts _ gw_435) (fun _ h9 => h9) rfl nd_D_isKnown_25 ?_
  refine lv_iconst (v := (5 : Int32)) hx hb nd_D_isKnown_28 (by decide) ?_
  refine lv_icmp_eq (tgt := 36) hx hb nd_D_isKnown_29 (by decide) (fun h29 => ?_) (fun h29 => ?_)
  · have hw := (if_pos h29).symm.trans hw
    exact J36 H locs ls hP hD hS (lv_sub hl [0] rfl) hw
  have hw := (if_neg h29).symm.trans hw
  refine lv_iconst (v := (1 : Int32)) hx hb nd_D_isKnown_32 (by decide) ?_
  refine lv_goto (tgt := 37) hx hb nd_D_isKnown_33 (by decide) ?_
  exact J37 (1 : Int32) H locs ls hP hD hS (lv_sub hl [0] rfl) hw
set_option maxHeartbeats 4000000 in
set_option maxRecDepth 100000 in
theorem c_D_number (l : Launch) (D : va_G) (h : Nat → Nat) (cA : Nat → ClassId) (u : St) (F : Int32) (hw : f_D_number u = F) : MI nwS vwCl l ny_D_number nw_D_number ({ frames := 0, cells := 0, slots := 0, locals := 0 }) D (tyI cA) (wMD h cA) ([.ref (h 0)] : List Value) u (F, u) := by
  refine my_in (gw := GW) (cc := nc_D_number) (maxL := 1) (ret := (some .int)) (Qc := fun A => QI vwCl D (tyI cA) (wMD h cA) (F, u) A) (by decide) rfl (Nat.le_of_ble_eq_true rfl) ?_
  intro p e s m below meth c A H locs ls hx hb hml hr hts hown hlocks hK hN hA hP hD hS hl
  have hown : s.vm.findClass nR_D = some m.cls := hown
  have hl : lv_has ls 1 [(0, .ref (h 0))] := hl
  unfold f_D_number at hw
  refine lv_aload_n hx hb nd_D_number_0 rfl (lv_at hl 0 rfl) ?_
  refine va_get (D := D) (ci := 5) (v := .int (u 0 17)) (C := nR_D) (T := nT_D) (N := 28) hx hb hts nu_D hown hK hP 0 rfl rfl 17 (by decide) (hts _ gw_431) (fun _ h9 => h9) rfl nd_D_number_1 ?_
  refine lv_bipush (v := (16 : Int32)) hx hb nd_D_number_4 (by decide) ?_
  refine lv_ishl hx hb nd_D_number_6 ?_
  refine lv_bipush (v := (16 : Int32)) hx hb nd_D_number_7 (by decide) ?_
  refine lv_ishr hx hb nd_D_number_9 ?_
  exact my_ri (u' := u) (v := ((u 0 17) <<< ((16 : Int32) &&& 31)) >>> ((16 : Int32) &&& 31)) hx hb hr hlocks hK hP hD hS (congrArg (fun z9 => (z9, u)) hw) nd_D_number_10
set_option maxHeartbeats 4000000 in
set_option maxRecDepth 100000 in
theorem c_D_moved (l : Launch) (D : va_G) (h : Nat → Nat) (cA : Nat → ClassId) (u : St) (F : Int32) (hw : f_D_moved u = F) : MI nwS vwCl l ny_D_moved nw_D_moved ({ frames := 0, cells := 0, slots := 0, locals := 0 }) D (tyI cA) (wMD h cA) ([.ref (h 0)] : List Value) u (F, u) := by
  refine my_in (gw := GW) (cc := nc_D_moved) (maxL := 2) (ret := (some .int)) (Qc := fun A => QI vwCl D (tyI cA) (wMD h cA) (F, u) A) (by decide) rfl (Nat.le_of_ble_eq_true rfl) ?_
  intro p e s m below meth c A H locs ls hx hb hml hr hts hown hlocks hK hN hA hP hD hS hl
  have hown : s.vm.findClass nR_D = some m.cls := hown
  have hl : lv_has ls 2 [(0, .ref (h 0))] := hl
  unfold f_D_moved at hw
  refine lv_aload_n hx hb nd_D_moved_0 rfl (lv_at hl 0 rfl) ?_
  refine va_get (D := D) (ci := 5) (v := .int (u 0 18)) (C := nR_D) (T := nT_D) (N := 28) hx hb hts nu_D hown hK hP 0 rfl rfl 18 (by decide) (hts _ gw_432) (fun _ h9 => h9) rfl nd_D_moved_1 ?_
  refine lv_iconst (v := (3 : Int32)) hx hb nd_D_moved_4 (by decide) ?_
  refine lv_iand hx hb nd_D_moved_5 ?_
  refine lv_istore_n (lv' := [(1, .int ((u 0 18) &&& (3 : Int32))), (0, .ref (h 0))]) hx hb nd_D_moved_6 rfl hl (by decide) rfl (fun ls hl => ?_)
  refine lv_aload_n hx hb nd_D_moved_7 rfl (lv_at hl 1 rfl) ?_
  refine va_get (D := D) (ci := 5) (v := .int (u 0 18)) (C := nR_D) (T := nT_D) (N := 28) hx hb hts nu_D hown hK hP 0 rfl rfl 18 (by decide) (hts _ gw_432) (fun _ h9 => h9) rfl nd_D_moved_8 ?_
  refine lv_bipush (v := (34 : Int32)) hx hb nd_D_moved_11 (by decide) ?_
  refine lv_icmp_eq (tgt := 43) hx hb nd_D_moved_13 (by decide) (fun h13 => ?_) (fun h13 => ?_)
  · have hw := (if_pos h13).symm.trans hw
    refine lv_iconst (v := (4 : Int32)) hx hb nd_D_moved_43 (by decide) ?_
    refine lv_goto (tgt := 65) hx hb nd_D_moved_44 (by decide) ?_
    exact my_ri (u' := u) (v := (4 : Int32)) hx hb hr hlocks hK hP hD hS (congrArg (fun z9 => (z9, u)) hw) nd_D_moved_65
  have hw := (if_neg h13).symm.trans hw
  refine lv_aload_n hx hb nd_D_moved_16 rfl (lv_at hl 1 rfl) ?_
  refine va_get (D := D) (ci := 5) (v := .int (u 0 18)) (C := nR_D) (T := nT_D) (N := 28) hx hb hts nu_D hown hK hP 0 rfl rfl 18 (by decide) (hts _ gw_432) (fun _ h9 => h9) rfl nd_D_moved_17 ?_
  refine lv_bipush (v := (38 : Int32)) hx hb nd_D_moved_20 (by decide) ?_
  refine lv_icmp_eq (tgt := 43) hx hb nd_D_moved_22 (by decide) (fun h22 => ?_) (fun h22 => ?_)
  · have hw := (if_pos h22).symm.trans hw
    refine lv_iconst (v := (4 : Int32)) hx hb nd_D_moved_43 (by decide) ?_
    refine lv_goto (tgt := 65) hx hb nd_D_moved_44 (by decide) ?_
    exact my_ri (u' := u) (v := (4 : Int32)) hx hb hr hlocks hK hP hD hS (congrArg (fun z9 => (z9, u)) hw) nd_D_moved_65
  have hw := (if_neg h22).symm.trans hw
  refine lv_aload_n hx hb nd_D_moved_25 rfl (lv_at hl 1 rfl) ?_
  refine va_get (D := D) (ci := 5) (v := .int (u 0 18)) (C := nR_D) (T := nT_D) (N := 28) hx hb hts nu_D hown hK hP 0 rfl rfl 18 (by decide) (hts _ gw_432) (fun _ h9 => h9) rfl nd_D_moved_26 ?_
  refine lv_bipush (v := (42 : Int32)) hx hb nd_D_moved_29 (by decide) ?_
  refine lv_icmp_eq (tgt := 43) hx hb nd_D_moved_31 (by decide) (fun h31 => ?_) (fun h31 => ?_)
  · have hw := (if_pos h31).symm.trans hw
    refine lv_iconst (v := (4 : Int32)) hx hb nd_D_moved_43 (by decide) ?_
    refine lv_goto (tgt := 65) hx hb nd_D_moved_44 (by decide) ?_
    exact my_ri (u' := u) (v := (4 : Int32)) hx hb hr hlocks hK hP hD hS (congrArg (fun z9 => (z9, u)) hw) nd_D_moved_65
  have hw := (if_neg h31).symm.trans hw
  refine lv_aload_n hx hb nd_D_moved_34 rfl (lv_at hl 1 rfl) ?_
  refine va_get (D := D) (ci := 5) (v := .int (u 0 18)) (C := nR_D) (T := nT_D) (N := 28) hx hb hts nu_D hown hK hP 0 rfl rfl 18 (by decide) (hts _ gw_432) (fun _ h9 => h9) rfl nd_D_moved_35 ?_
  refine lv_bipush (v := (46 : Int32)) hx hb nd_D_moved_38 (by decide) ?_
  refine lv_icmp_ne (tgt := 47) hx hb nd_D_moved_40 (by decide) (fun h40 => ?_) (fun h40 => ?_)
  · have hw := (if_neg h40).symm.trans hw
    refine lv_iload_n hx hb nd_D_moved_47 rfl (lv_at hl 0 rfl) ?_
    refine lv_if_ne (tgt := 55) hx hb nd_D_moved_48 (by decide) (fun h48 => ?_) (fun h48 => ?_)
    · have hw := (if_neg h48).symm.trans hw
      refine lv_iload_n hx hb nd_D_moved_55 rfl (lv_at hl 0 rfl) ?_
      refine lv_iconst (v := (1 : Int32)) hx hb nd_D_moved_56 (by decide) ?_
      refine lv_icmp_ne (tgt := 64) hx hb nd_D_moved_57 (by decide) (fun h57 => ?_) (fun h57 => ?_)
      · have hw := (if_neg h57).symm.trans hw
        refine lv_iconst (v := (4 : Int32)) hx hb nd_D_moved_64 (by decide) ?_
        exact my_ri (u' := u) (v := (4 : Int32)) hx hb hr hlocks hK hP hD hS (congrArg (fun z9 => (z9, u)) hw) nd_D_moved_65
      have hw := (if_pos h57).symm.trans hw
      refine lv_iconst (v := (2 : Int32)) hx hb nd_D_moved_60 (by decide) ?_
      refine lv_goto (tgt := 65) hx hb nd_D_moved_61 (by decide) ?_
      exact my_ri (u' := u) (v := (2 : Int32)) hx hb hr hlocks hK hP hD hS (congrArg (fun z9 => (z9, u)) hw) nd_D_moved_65
    have hw := (if_pos h48).symm.trans hw
    refine lv_iconst (v := (1 : Int32)) hx hb nd_D_moved_51 (by decide) ?_
    refine lv_goto (tgt := 65) hx hb nd_D_moved_52 (by decide) ?_
    exact my_ri (u' := u) (v := (1 : Int32)) hx hb hr hlocks hK hP hD hS (congrArg (fun z9 => (z9, u)) hw) nd_D_moved_65
  have hw := (if_pos h40).symm.trans hw
  refine lv_iconst (v := (4 : Int32)) hx hb nd_D_moved_43 (by decide) ?_
  refine lv_goto (tgt := 65) hx hb nd_D_moved_44 (by decide) ?_
  exact my_ri (u' := u) (v := (4 : Int32)) hx hb hr hlocks hK hP hD hS (congrArg (fun z9 => (z9, u)) hw) nd_D_moved_65
set_option maxHeartbeats 4000000 in
set_option maxRecDepth 100000 in
theorem c_D_isPart (l : Launch) (D : va_G) (h : Nat → Nat) (cA : Nat → ClassId) (u : St) (F : Int32) (hw : f_D_isPart u = F) : MI nwS vwCl l ny_D_isPart nw_D_isPart ({ frames := 0, cells := 0, slots := 0, locals := 0 }) D (tyI cA) (wMD h cA) ([.ref (h 0)] : List Value) u (zb F, u) := by
  refine my_in (gw := GW) (cc := nc_D_isPart) (maxL := 1) (ret := (some .boolean)) (Qc := fun A => QI vwCl D (tyI cA) (wMD h cA) (zb F, u) A) (by decide) rfl (Nat.le_of_ble_eq_true rfl) ?_
  intro p e s m below meth c A H locs ls hx hb hml hr hts hown hlocks hK hN hA hP hD hS hl
  have hown : s.vm.findClass nR_D = some m.cls := hown
  have hl : lv_has ls 1 [(0, .ref (h 0))] := hl
  unfold f_D_isPart at hw
  refine lv_aload_n hx hb nd_D_isPart_0 rfl (lv_at hl 0 rfl) ?_
  refine va_get (D := D) (ci := 5) (v := .int (u 0 18)) (C := nR_D) (T := nT_D) (N := 28) hx hb hts nu_D hown hK hP 0 rfl rfl 18 (by decide) (hts _ gw_432) (fun _ h9 => h9) rfl nd_D_isPart_1 ?_
  refine lv_bipush (v := (34 : Int32)) hx hb nd_D_isPart_4 (by decide) ?_
  refine lv_icmp_eq (tgt := 36) hx hb nd_D_isPart_6 (by decide) (fun h6 => ?_) (fun h6 => ?_)
  · have hw := (if_pos h6).symm.trans hw
    refine lv_iconst (v := (1 : Int32)) hx hb nd_D_isPart_36 (by decide) ?_
    refine lv_goto (tgt := 41) hx hb nd_D_isPart_37 (by decide) ?_
    exact my_rzo (u' := u) (x := (1 : Int32)) hx hb hr hlocks hK hP hD hS hw rfl nd_D_isPart_41
  have hw := (if_neg h6).symm.trans hw
  refine lv_aload_n hx hb nd_D_isPart_9 rfl (lv_at hl 0 rfl) ?_
  refine va_get (D := D) (ci := 5) (v := .int (u 0 18)) (C := nR_D) (T := nT_D) (N := 28) hx hb hts nu_D hown hK hP 0 rfl rfl 18 (by decide) (hts _ gw_432) (fun _ h9 => h9) rfl nd_D_isPart_10 ?_
  refine lv_bipush (v := (38 : Int32)) hx hb nd_D_isPart_13 (by decide) ?_
  refine lv_icmp_eq (tgt := 36) hx hb nd_D_isPart_15 (by decide) (fun h15 => ?_) (fun h15 => ?_)
  · have hw := (if_pos h15).symm.trans hw
    refine lv_iconst (v := (1 : Int32)) hx hb nd_D_isPart_36 (by decide) ?_
    refine lv_goto (tgt := 41) hx hb nd_D_isPart_37 (by decide) ?_
    exact my_rzo (u' := u) (x := (1 : Int32)) hx hb hr hlocks hK hP hD hS hw rfl nd_D_isPart_41
  have hw := (if_neg h15).symm.trans hw
  refine lv_aload_n hx hb nd_D_isPart_18 rfl (lv_at hl 0 rfl) ?_
  refine va_get (D := D) (ci := 5) (v := .int (u 0 18)) (C := nR_D) (T := nT_D) (N := 28) hx hb hts nu_D hown hK hP 0 rfl rfl 18 (by decide) (hts _ gw_432) (fun _ h9 => h9) rfl nd_D_isPart_19 ?_
  refine lv_bipush (v := (42 : Int32)) hx hb nd_D_isPart_22 (by decide) ?_
  refine lv_icmp_eq (tgt := 36) hx hb nd_D_isPart_24 (by decide) (fun h24 => ?_) (fun h24 => ?_)
  · have hw := (if_pos h24).symm.trans hw
    refine lv_iconst (v := (1 : Int32)) hx hb nd_D_isPart_36 (by decide) ?_
    refine lv_goto (tgt := 41) hx hb nd_D_isPart_37 (by decide) ?_
    exact my_rzo (u' := u) (x := (1 : Int32)) hx hb hr hlocks hK hP hD hS hw rfl nd_D_isPart_41
  have hw := (if_neg h24).symm.trans hw
  refine lv_aload_n hx hb nd_D_isPart_27 rfl (lv_at hl 0 rfl) ?_
  refine va_get (D := D) (ci := 5) (v := .int (u 0 18)) (C := nR_D) (T := nT_D) (N := 28) hx hb hts nu_D hown hK hP 0 rfl rfl 18 (by decide) (hts _ gw_432) (fun _ h9 => h9) rfl nd_D_isPart_28 ?_
  refine lv_bipush (v := (46 : Int32)) hx hb nd_D_isPart_31 (by decide) ?_
  refine lv_icmp_ne (tgt := 40) hx hb nd_D_isPart_33 (by decide) (fun h33 => ?_) (fun h33 => ?_)
  · have hw := (if_neg h33).symm.trans hw
    refine lv_iconst (v := (0 : Int32)) hx hb nd_D_isPart_40 (by decide) ?_
    exact my_rzo (u' := u) (x := (0 : Int32)) hx hb hr hlocks hK hP hD hS hw rfl nd_D_isPart_41
  have hw := (if_pos h33).symm.trans hw
  refine lv_iconst (v := (1 : Int32)) hx hb nd_D_isPart_36 (by decide) ?_
  refine lv_goto (tgt := 41) hx hb nd_D_isPart_37 (by decide) ?_
  exact my_rzo (u' := u) (x := (1 : Int32)) hx hb hr hlocks hK hP hD hS hw rfl nd_D_isPart_41
set_option maxHeartbeats 4000000 in
set_option maxRecDepth 100000 in
theorem c_D_addressTrouble (l : Launch) (D : va_G) (h : Nat → Nat) (cA : Nat → ClassId) (u : St) (F : Int32 × St) (hw : f_D_addressTrouble u = F) : MI nwS vwCl l ny_D_addressTrouble nw_D_addressTrouble ({ frames := 1, cells := 0, slots := 0, locals := 22 }) D (tyI cA) (wMD h cA) ([.ref (h 0)] : List Value) u F := by
  refine my_in (gw := GW) (cc := nc_D_addressTrouble) (maxL := 3) (ret := (some .int)) (Qc := fun A => QI vwCl D (tyI cA) (wMD h cA) F A) (by decide) rfl (Nat.le_of_ble_eq_true rfl) ?_
  intro p e s m below meth c A H locs ls hx hb hml hr hts hown hlocks hK hN hA hP hD hS hl
  have hown : s.vm.findClass nR_D = some m.cls := hown
  have hl : lv_has ls 3 [(0, .ref (h 0))] := hl
  have J45 : ∀ (x1 : Int32) (u : St) (H : Heap) (locs : List Loc) (ls : Array Slot), va_P D vwCl (wMD h cA u) H → va_D A (wMD h cA u) → va_S A s.heap H locs → lv_has ls 3 [(0, .ref (h 0)), (1, .int x1)] → f_D_addressTrouble_b45 x1 u = F →
      W p l e (headSpec nw_D_addressTrouble ({ frames := 1, cells := 0, slots := 0, locals := 22 })).room s m ([.ref (h 0)] : List Value).toArray below meth c H locs 0 0 (MQ below (QI vwCl D (tyI cA) (wMD h cA) F A) ([.ref (h 0)] : List Value).toArray s 0 0 A) (F0 m 45 ls []) := by
    intro x1 u H locs ls hP hD hS hl hw
    unfold f_D_addressTrouble_b45 at hw
    refine lv_aload_n hx hb nd_D_addressTrouble_45 rfl (lv_at hl 0 rfl) ?_
    refine lv_iload_n hx hb nd_D_addressTrouble_46 rfl (lv_at hl 1 rfl) ?_
    refine va_put (D := D) (ci := 5) (v := .int x1) (ty := .int) (C := nR_D) (T := nT_D) (N := 28) hx hb hts nu_D nt_D nto_D nn_D hown hK hP hD hS 0 rfl rfl 11 (by decide) (hts _ gw_425) (fun _ h9 => h9) rfl (by decide +kernel) rfl rfl (Nat.le_of_ble_eq_true rfl) nd_D_addressTrouble_47 (fun H locs hP hD hS => ?_)
    have hP : va_P D vwCl (wMD h cA (sU u 0 11 x1)) H := hP
    have hD : va_D A (wMD h cA (sU u 0 11 x1)) := hD
    refine lv_aload_n hx hb nd_D_addressTrouble_50 rfl (lv_at hl 0 rfl) ?_
    refine va_get (D := D) (ci := 5) (v := .int (u 0 18)) (C := nR_D) (T := nT_D) (N := 28) hx hb hts nu_D hown hK hP 0 rfl rfl 18 (by decide) (hts _ gw_432) (fun _ h9 => h9) rfl nd_D_addressTrouble_51 ?_
    refine lv_bipush (v := (40 : Int32)) hx hb nd_D_addressTrouble_54 (by decide) ?_
    refine lv_icmp_ge (tgt := 63) hx hb nd_D_addressTrouble_56 (by decide) (fun h56 => ?_) (fun h56 => ?_)
    · have hw := (if_pos h56).symm.trans hw
      refine lv_iconst (v := (5 : Int32)) hx hb nd_D_addressTrouble_63 (by decide) ?_
      exact my_ri (u' := sU u 0 11 x1) (v := (5 : Int32)) hx hb hr hlocks hK hP hD hS hw nd_D_addressTrouble_64
    have hw := (if_neg h56).symm.trans hw
    refine lv_iconst (v := (4 : Int32)) hx hb nd_D_addressTrouble_59 (by decide) ?_
    refine lv_goto (tgt := 64) hx hb nd_D_addressTrouble_60 (by decide) ?_
    exact my_ri (u' := sU u 0 11 x1) (v := (4 : Int32)) hx hb hr hlocks hK hP hD hS hw nd_D_addressTrouble_64
  have J80 : ∀ (y0 : Int32) (u : St) (H : Heap) (locs : List Loc) (ls : Array Slot), va_P D vwCl (wMD h cA u) H → va_D A (wMD h cA u) → va_S A s.heap H locs → lv_has ls 3 [(0, .ref (h 0))] → f_D_addressTrouble_b80 y0 u = F →
      W p l e (headSpec nw_D_addressTrouble ({ frames := 1, cells := 0, slots := 0, locals := 22 })).room s m ([.ref (h 0)] : List Value).toArray below meth c H locs 0 0 (MQ below (QI vwCl D (tyI cA) (wMD h cA) F A) ([.ref (h 0)] : List Value).toArray s 0 0 A) (F0 m 80 ls [.int y0]) := by
    intro y0 u H locs ls hP hD hS hl hw
    unfold f_D_addressTrouble_b80 at hw
    refine lv_aload_n hx hb nd_D_addressTrouble_80 rfl (lv_at hl 0 rfl) ?_
    refine my_ci (wd := wMD h cA) (r := f_D_moved u) (u' := u) (va_runV (As := []) (rest := [.int y0]) ⟨hx, hb, hml, hown, hts⟩ (c_D_moved l D h cA u _ rfl _) ⟨callB_of 0 hts (gw_in gw_589) rfl rfl rfl (hts _ gw_6) (hts _ gw_586) nh_D_moved ⟨Nat.le_of_ble_eq_true rfl, Nat.le_of_ble_eq_true rfl⟩, (hts _ gw_588), (hts _ gw_587)⟩ (my_preV nwOk hP hK hD hN (va_recv hK hP (ci := 5) (q0 := 0) rfl rfl)) rfl rfl hl.1 rfl (lv_room (Nat.le_of_ble_eq_true rfl)) nd_D_addressTrouble_81 ⟨Nat.le_of_ble_eq_true rfl, Nat.le_of_ble_eq_true rfl⟩) hD hS hA (fun H locs hP hD hS => ?_)
    refine my_cp (F := zb (f_D_inMemory y0 (f_D_moved u))) (va_runS (As := [.int y0, .int (f_D_moved u)]) (rest := []) ⟨hx, hb, hml, hown, hts⟩ (c_D_inMemory l y0 (f_D_moved u) _ rfl) ⟨callB_of 2 hts (gw_in gw_553) rfl rfl rfl (hts _ gw_6) (hts _ gw_551) nh_D_inMemory ⟨Nat.le_of_ble_eq_true rfl, Nat.le_of_ble_eq_true rfl⟩, (hts _ gw_552)⟩ my_preP rfl rfl hl.1 rfl (lv_room (Nat.le_of_ble_eq_true rfl)) nd_D_addressTrouble_84 ⟨Nat.le_of_ble_eq_true rfl, Nat.le_of_ble_eq_true rfl⟩) hP hS (fun H locs hP hS => ?_)
    refine lv_if_eq (tgt := 94) hx hb nd_D_addressTrouble_87 (by decide) (fun h87 => ?_) (fun h87 => ?_)
    · have hw := (if_pos h87).symm.trans hw
      refine lv_bipush (v := (7 : Int32)) hx hb nd_D_addressTrouble_94 (by decide) ?_
      exact my_ri (u' := u) (v := (7 : Int32)) hx hb hr hlocks hK hP hD hS hw nd_D_addressTrouble_96
    have hw := (if_neg h87).symm.trans hw
    refine lv_iconst (v := (0 : Int32)) hx hb nd_D_addressTrouble_90 (by decide) ?_
    refine lv_goto (tgt := 96) hx hb nd_D_addressTrouble_91 (by decide) ?_
    exact my_ri (u' := u) (v := (0 : Int32)) hx hb hr hlocks hK hP hD hS hw nd_D_addressTrouble_96
  have J65 : ∀ (x1 : Int32) (u : St) (H : Heap) (locs : List Loc) (ls : Array Slot), va_P D vwCl (wMD h cA u) H → va_D A (wMD h cA u) → va_S A s.heap H locs → lv_has ls 3 [(0, .ref (h 0)), (1, .int x1)] → f_D_addressTrouble_b65 x1 u = F →
      W p l e (headSpec nw_D_addressTrouble ({ frames := 1, cells := 0, slots := 0, locals := 22 })).room s m ([.ref (h 0)] : List Value).toArray below meth c H locs 0 0 (MQ below (QI vwCl D (tyI cA) (wMD h cA) F A) ([.ref (h 0)] : List Value).toArray s 0 0 A) (F0 m 65 ls []) := by
    intro x1 u H locs ls hP hD hS hl hw
    unfold f_D_addressTrouble_b65 at hw
    refine lv_aload_n hx hb nd_D_addressTrouble_65 rfl (lv_at hl 0 rfl) ?_
    refine my_ci (wd := wMD h cA) (r := zb (f_D_isPart u)) (u' := u) (va_runV (As := []) (rest := []) ⟨hx, hb, hml, hown, hts⟩ (c_D_isPart l D h cA u _ rfl _) ⟨callB_of 0 hts (gw_in gw_585) rfl rfl rfl (hts _ gw_6) (hts _ gw_582) nh_D_isPart ⟨Nat.le_of_ble_eq_true rfl, Nat.le_of_ble_eq_true rfl⟩, (hts _ gw_584), (hts _ gw_583)⟩ (my_preV nwOk hP hK hD hN (va_recv hK hP (ci := 5) (q0 := 0) rfl rfl)) rfl rfl hl.1 rfl (lv_room (Nat.le_of_ble_eq_true rfl)) nd_D_addressTrouble_66 ⟨Nat.le_of_ble_eq_true rfl, Nat.le_of_ble_eq_true rfl⟩) hD hS hA (fun H locs hP hD hS => ?_)
    refine lv_if_eq (tgt := 79) hx hb nd_D_addressTrouble_69 (by decide) (fun h69 => ?_) (fun h69 => ?_)
    · have hw := (if_pos h69).symm.trans hw
      refine lv_iload_n hx hb nd_D_addressTrouble_79 rfl (lv_at hl 1 rfl) ?_
      exact J80 x1 u H locs ls hP hD hS (lv_sub hl [0] rfl) hw
    have hw := (if_neg h69).symm.trans hw
    refine lv_iload_n hx hb nd_D_addressTrouble_72 rfl (lv_at hl 1 rfl) ?_
    refine lv_bipush (v := (-4 : Int32)) hx hb nd_D_addressTrouble_73 (by decide) ?_
    refine lv_iand hx hb nd_D_addressTrouble_75 ?_
    refine lv_goto (tgt := 80) hx hb nd_D_addressTrouble_76 (by decide) ?_
    exact J80 (x1 &&& (-4 : Int32)) u H locs ls hP hD hS (lv_sub hl [0] rfl) hw
  have J25 : ∀ (x1 : Int32) (y0 : Int32) (u : St) (H : Heap) (locs : List Loc) (ls : Array Slot), va_P D vwCl (wMD h cA u) H → va_D A (wMD h cA u) → va_S A s.heap H locs → lv_has ls 3 [(0, .ref (h 0)), (1, .int x1)] → f_D_addressTrouble_b25 x1 y0 u = F →
      W p l e (headSpec nw_D_addressTrouble ({ frames := 1, cells := 0, slots := 0, locals := 22 })).room s m ([.ref (h 0)] : List Value).toArray below meth c H locs 0 0 (MQ below (QI vwCl D (tyI cA) (wMD h cA) F A) ([.ref (h 0)] : List Value).toArray s 0 0 A) (F0 m 25 ls [.int y0]) := by
    intro x1 y0 u H locs ls hP hD hS hl hw
    unfold f_D_addressTrouble_b25 at hw
    refine lv_istore_n (lv' := [(2, .int y0), (0, .ref (h 0)), (1, .int x1)]) hx hb nd_D_addressTrouble_25 rfl hl (by decide) rfl (fun ls hl => ?_)
    refine lv_iload_n hx hb nd_D_addressTrouble_26 rfl (lv_at hl 2 rfl) ?_
    refine lv_iload_n hx hb nd_D_addressTrouble_27 rfl (lv_at hl 0 rfl) ?_
    refine lv_iconst (v := (1 : Int32)) hx hb nd_D_addressTrouble_28 (by decide) ?_
    refine lv_isub hx hb nd_D_addressTrouble_29 ?_
    refine lv_iand hx hb nd_D_addressTrouble_30 ?_
    refine lv_if_ne (tgt := 45) hx hb nd_D_addressTrouble_31 (by decide) (fun h31 => ?_) (fun h31 => ?_)
    · have hw := (if_neg h31).symm.trans hw
      exact J45 x1 u H locs ls hP hD hS (lv_sub hl [1, 2] rfl) hw
    have hw := (if_pos h31).symm.trans hw
    refine lv_iload_n hx hb nd_D_addressTrouble_34 rfl (lv_at hl 2 rfl) ?_
    refine lv_if_ge (tgt := 65) hx hb nd_D_addressTrouble_35 (by decide) (fun h35 => ?_) (fun h35 => ?_)
    · have hw := (if_pos h35).symm.trans hw
      exact J65 x1 u H locs ls hP hD hS (lv_sub hl [1, 2] rfl) hw
    have hw := (if_neg h35).symm.trans hw
    refine lv_aload_n hx hb nd_D_addressTrouble_38 rfl (lv_at hl 1 rfl) ?_
    refine my_ci (wd := wMD h cA) (r := zb (f_D_user u)) (u' := u) (va_runV (As := []) (rest := []) ⟨hx, hb, hml, hown, hts⟩ (c_D_user l D h cA u _ rfl _) ⟨callB_of 0 hts (gw_in gw_550) rfl rfl rfl (hts _ gw_6) (hts _ gw_547) nh_D_user ⟨Nat.le_of_ble_eq_true rfl, Nat.le_of_ble_eq_true rfl⟩, (hts _ gw_549), (hts _ gw_548)⟩ (my_preV nwOk hP hK hD hN (va_recv hK hP (ci := 5) (q0 := 0) rfl rfl)) rfl rfl hl.1 rfl (lv_room (Nat.le_of_ble_eq_true rfl)) nd_D_addressTrouble_39 ⟨Nat.le_of_ble_eq_true rfl, Nat.le_of_ble_eq_true rfl⟩) hD hS hA (fun H locs hP hD hS => ?_)
    refine lv_if_eq (tgt := 65) hx hb nd_D_addressTrouble_42 (by decide) (fun h42 => ?_) (fun h42 => ?_)
    · have hw := (if_pos h42).symm.trans hw
      exact J65 x1 u H locs ls hP hD hS (lv_sub hl [1, 2] rfl) hw
    have hw := (if_neg h42).symm.trans hw
    exact J45 x1 u H locs ls hP hD hS (lv_sub hl [1, 2] rfl) hw
  unfold f_D_addressTrouble at hw
  refine lv_aload_n hx hb nd_D_addressTrouble_0 rfl (lv_at hl 0 rfl) ?_
  refine va_get (D := D) (ci := 5) (v := .int (u 0 19)) (C := nR_D) (T := nT_D) (N := 28) hx hb hts nu_D hown hK hP 0 rfl rfl 19 (by decide) (hts _ gw_433) (fun _ h9 => h9) rfl nd_D_addressTrouble_1 ?_
  refine lv_aload_n hx hb nd_D_addressTrouble_4 rfl (lv_at hl 0 rfl) ?_
  refine my_ci (wd := wMD h cA) (r := f_D_number u) (u' := u) (va_runV (As := []) (rest := [.int (u 0 19)]) ⟨hx, hb, hml, hown, hts⟩ (c_D_number l D h cA u _ rfl _) ⟨callB_of 0 hts (gw_in gw_577) rfl rfl rfl (hts _ gw_6) (hts _ gw_574) nh_D_number ⟨Nat.le_of_ble_eq_true rfl, Nat.le_of_ble_eq_true rfl⟩, (hts _ gw_576), (hts _ gw_575)⟩ (my_preV nwOk hP hK hD hN (va_recv hK hP (ci := 5) (q0 := 0) rfl rfl)) rfl rfl hl.1 rfl (lv_room (Nat.le_of_ble_eq_true rfl)) nd_D_addressTrouble_5 ⟨Nat.le_of_ble_eq_true rfl, Nat.le_of_ble_eq_true rfl⟩) hD hS hA (fun H locs hP hD hS => ?_)
  refine lv_iadd hx hb nd_D_addressTrouble_8 ?_
  refine lv_istore_n (lv' := [(1, .int ((u 0 19) + (f_D_number u))), (0, .ref (h 0))]) hx hb nd_D_addressTrouble_9 rfl hl (by decide) rfl (fun ls hl => ?_)
  refine lv_aload_n hx hb nd_D_addressTrouble_10 rfl (lv_at hl 1 rfl) ?_
  refine my_ci (wd := wMD h cA) (r := zb (f_D_isPart u)) (u' := u) (va_runV (As := []) (rest := []) ⟨hx, hb, hml, hown, hts⟩ (c_D_isPart l D h cA u _ rfl _) ⟨callB_of 0 hts (gw_in gw_585) rfl rfl rfl (hts _ gw_6) (hts _ gw_582) nh_D_isPart ⟨Nat.le_of_ble_eq_true rfl, Nat.le_of_ble_eq_true rfl⟩, (hts _ gw_584), (hts _ gw_583)⟩ (my_preV nwOk hP hK hD hN (va_recv hK hP (ci := 5) (q0 := 0) rfl rfl)) rfl rfl hl.1 rfl (lv_room (Nat.le_of_ble_eq_true rfl)) nd_D_addressTrouble_11 ⟨Nat.le_of_ble_eq_true rfl, Nat.le_of_ble_eq_true rfl⟩) hD hS hA (fun H locs hP hD hS => ?_)
  refine lv_if_eq (tgt := 21) hx hb nd_D_addressTrouble_14 (by decide) (fun h14 => ?_) (fun h14 => ?_)
  · have hw := (if_pos h14).symm.trans hw
    refine lv_aload_n hx hb nd_D_addressTrouble_21 rfl (lv_at hl 1 rfl) ?_
    refine my_ci (wd := wMD h cA) (r := f_D_moved u) (u' := u) (va_runV (As := []) (rest := []) ⟨hx, hb, hml, hown, hts⟩ (c_D_moved l D h cA u _ rfl _) ⟨callB_of 0 hts (gw_in gw_589) rfl rfl rfl (hts _ gw_6) (hts _ gw_586) nh_D_moved ⟨Nat.le_of_ble_eq_true rfl, Nat.le_of_ble_eq_true rfl⟩, (hts _ gw_588), (hts _ gw_587)⟩ (my_preV nwOk hP hK hD hN (va_recv hK hP (ci := 5) (q0 := 0) rfl rfl)) rfl rfl hl.1 rfl (lv_room (Nat.le_of_ble_eq_true rfl)) nd_D_addressTrouble_22 ⟨Nat.le_of_ble_eq_true rfl, Nat.le_of_ble_eq_true rfl⟩) hD hS hA (fun H locs hP hD hS => ?_)
    exact J25 ((u 0 19) + (f_D_number u)) (f_D_moved u) u H locs ls hP hD hS (lv_sub hl [1, 0] rfl) hw
  have hw := (if_neg h14).symm.trans hw
  refine lv_iconst (v := (1 : Int32)) hx hb nd_D_addressTrouble_17 (by decide) ?_
  refine lv_goto (tgt := 25) hx hb nd_D_addressTrouble_18 (by decide) ?_
  exact J25 ((u 0 19) + (f_D_number u)) (1 : Int32) u H locs ls hP hD hS (lv_sub hl [1, 0] rfl) hw
set_option maxHeartbeats 4000000 in
set_option maxRecDepth 100000 in
theorem c_D_trouble (l : Launch) (D : va_G) (h : Nat → Nat) (cA : Nat → ClassId) (u : St) (F : Int32 × St) (hw : f_D_trouble u = F) : MI nwS vwCl l ny_D_trouble nw_D_trouble ({ frames := 2, cells := 0, slots := 0, locals := 44 }) D (tyI cA) (wMD h cA) ([.ref (h 0)] : List Value) u F := by
  refine my_in (gw := GW) (cc := nc_D_trouble) (maxL := 2) (ret := (some .int)) (Qc := fun A => QI vwCl D (tyI cA) (wMD h cA) F A) (by decide) rfl (Nat.le_of_ble_eq_true rfl) ?_
  intro p e s m below meth c A H locs ls hx hb hml hr hts hown hlocks hK hN hA hP hD hS hl
  have hown : s.vm.findClass nR_D = some m.cls := hown
  have hl : lv_has ls 2 [(0, .ref (h 0))] := hl
  have J88 : ∀ (y0 : Int32) (u : St) (H : Heap) (locs : List Loc) (ls : Array Slot), va_P D vwCl (wMD h cA u) H → va_D A (wMD h cA u) → va_S A s.heap H locs → lv_has ls 2 [(0, .ref (h 0))] → f_D_trouble_b88 y0 u = F →
      W p l e (headSpec nw_D_trouble ({ frames := 2, cells := 0, slots := 0, locals := 44 })).room s m ([.ref (h 0)] : List Value).toArray below meth c H locs 0 0 (MQ below (QI vwCl D (tyI cA) (wMD h cA) F A) ([.ref (h 0)] : List Value).toArray s 0 0 A) (F0 m 88 ls [.int y0]) := by
    intro y0 u H locs ls hP hD hS hl hw
    unfold f_D_trouble_b88 at hw
    refine lv_istore_n (lv' := [(1, .int y0), (0, .ref (h 0))]) hx hb nd_D_trouble_88 rfl hl (by decide) rfl (fun ls hl => ?_)
    refine lv_aload_n hx hb nd_D_trouble_89 rfl (lv_at hl 1 rfl) ?_
    refine va_get (D := D) (ci := 5) (v := .int (u 0 21)) (C := nR_D) (T := nT_D) (N := 28) hx hb hts nu_D hown hK hP 0 rfl rfl 21 (by decide) (hts _ gw_435) (fun _ h9 => h9) rfl nd_D_trouble_90 ?_
    refine lv_bipush (v := (12 : Int32)) hx hb nd_D_trouble_93 (by decide) ?_
    refine lv_icmp_ne (tgt := 103) hx hb nd_D_trouble_95 (by decide) (fun h95 => ?_) (fun h95 => ?_)
    · have hw := (if_neg h95).symm.trans hw
      refine lv_aload_n hx hb nd_D_trouble_103 rfl (lv_at hl 1 rfl) ?_
      refine va_get (D := D) (ci := 5) (v := .int (u 0 21)) (C := nR_D) (T := nT_D) (N := 28) hx hb hts nu_D hown hK hP 0 rfl rfl 21 (by decide) (hts _ gw_435) (fun _ h9 => h9) rfl nd_D_trouble_104 ?_
      refine lv_bipush (v := (13 : Int32)) hx hb nd_D_trouble_107 (by decide) ?_
      refine lv_icmp_ne (tgt := 117) hx hb nd_D_trouble_109 (by decide) (fun h109 => ?_) (fun h109 => ?_)
      · have hw := (if_neg h109).symm.trans hw
        refine lv_iload_n hx hb nd_D_trouble_117 rfl (lv_at hl 0 rfl) ?_
        refine lv_if_eq (tgt := 126) hx hb nd_D_trouble_118 (by decide) (fun h118 => ?_) (fun h118 => ?_)
        · have hw := (if_pos h118).symm.trans hw
          refine lv_iconst (v := (0 : Int32)) hx hb nd_D_trouble_126 (by decide) ?_
          exact my_ri (u' := u) (v := (0 : Int32)) hx hb hr hlocks hK hP hD hS hw nd_D_trouble_127
        have hw := (if_neg h118).symm.trans hw
        refine lv_bipush (v := (12 : Int32)) hx hb nd_D_trouble_121 (by decide) ?_
        refine lv_goto (tgt := 127) hx hb nd_D_trouble_123 (by decide) ?_
        exact my_ri (u' := u) (v := (12 : Int32)) hx hb hr hlocks hK hP hD hS hw nd_D_trouble_127
      have hw := (if_pos h109).symm.trans hw
      refine lv_bipush (v := (9 : Int32)) hx hb nd_D_trouble_112 (by decide) ?_
      refine lv_goto (tgt := 127) hx hb nd_D_trouble_114 (by decide) ?_
      exact my_ri (u' := u) (v := (9 : Int32)) hx hb hr hlocks hK hP hD hS hw nd_D_trouble_127
    have hw := (if_pos h95).symm.trans hw
    refine lv_bipush (v := (8 : Int32)) hx hb nd_D_trouble_98 (by decide) ?_
    refine lv_goto (tgt := 127) hx hb nd_D_trouble_100 (by decide) ?_
    exact my_ri (u' := u) (v := (8 : Int32)) hx hb hr hlocks hK hP hD hS hw nd_D_trouble_127
  have J87 : ∀ (u : St) (H : Heap) (locs : List Loc) (ls : Array Slot), va_P D vwCl (wMD h cA u) H → va_D A (wMD h cA u) → va_S A s.heap H locs → lv_has ls 2 [(0, .ref (h 0))] → f_D_trouble_b87 u = F →
      W p l e (headSpec nw_D_trouble ({ frames := 2, cells := 0, slots := 0, locals := 44 })).room s m ([.ref (h 0)] : List Value).toArray below meth c H locs 0 0 (MQ below (QI vwCl D (tyI cA) (wMD h cA) F A) ([.ref (h 0)] : List Value).toArray s 0 0 A) (F0 m 87 ls []) := by
    intro u H locs ls hP hD hS hl hw
    unfold f_D_trouble_b87 at hw
    refine lv_iconst (v := (0 : Int32)) hx hb nd_D_trouble_87 (by decide) ?_
    exact J88 (0 : Int32) u H locs ls hP hD hS (lv_sub hl [0] rfl) hw
  have J83 : ∀ (u : St) (H : Heap) (locs : List Loc) (ls : Array Slot), va_P D vwCl (wMD h cA u) H → va_D A (wMD h cA u) → va_S A s.heap H locs → lv_has ls 2 [(0, .ref (h 0))] → f_D_trouble_b83 u = F →
      W p l e (headSpec nw_D_trouble ({ frames := 2, cells := 0, slots := 0, locals := 44 })).room s m ([.ref (h 0)] : List Value).toArray below meth c H locs 0 0 (MQ below (QI vwCl D (tyI cA) (wMD h cA) F A) ([.ref (h 0)] : List Value).toArray s 0 0 A) (F0 m 83 ls []) := by
    intro u H locs ls hP hD hS hl hw
    unfold f_D_trouble_b83 at hw
    refine lv_iconst (v := (1 : Int32)) hx hb nd_D_trouble_83 (by decide) ?_
    refine lv_goto (tgt := 88) hx hb nd_D_trouble_84 (by decide) ?_
    exact J88 (1 : Int32) u H locs ls hP hD hS (lv_sub hl [0] rfl) hw
  have J57 : ∀ (u : St) (H : Heap) (locs : List Loc) (ls : Array Slot), va_P D vwCl (wMD h cA u) H → va_D A (wMD h cA u) → va_S A s.heap H locs → lv_has ls 2 [(0, .ref (h 0))] → f_D_trouble_b57 u = F →
      W p l e (headSpec nw_D_trouble ({ frames := 2, cells := 0, slots := 0, locals := 44 })).room s m ([.ref (h 0)] : List Value).toArray below meth c H locs 0 0 (MQ below (QI vwCl D (tyI cA) (wMD h cA) F A) ([.ref (h 0)] : List Value).toArray s 0 0 A) (F0 m 57 ls []) := by
    intro u H locs ls hP hD hS hl hw
    unfold f_D_trouble_b57 at hw
    refine lv_aload_n hx hb nd_D_trouble_57 rfl (lv_at hl 0 rfl) ?_
    refine va_get (D := D) (ci := 5) (v := .int (u 0 21)) (C := nR_D) (T := nT_D) (N := 28) hx hb hts nu_D hown hK hP 0 rfl rfl 21 (by decide) (hts _ gw_435) (fun _ h9 => h9) rfl nd_D_trouble_58 ?_
    refine lv_bipush (v := (34 : Int32)) hx hb nd_D_trouble_61 (by decide) ?_
    refine lv_icmp_ne (tgt := 87) hx hb nd_D_trouble_63 (by decide) (fun h63 => ?_) (fun h63 => ?_)
    · have hw := (if_neg h63).symm.trans hw
      exact J87 u H locs ls hP hD hS (lv_sub hl [0] rfl) hw
    have hw := (if_pos h63).symm.trans hw
    refine lv_aload_n hx hb nd_D_trouble_66 rfl (lv_at hl 0 rfl) ?_
    refine va_get (D := D) (ci := 5) (v := .int (u 0 19)) (C := nR_D) (T := nT_D) (N := 28) hx hb hts nu_D hown hK hP 0 rfl rfl 19 (by decide) (hts _ gw_433) (fun _ h9 => h9) rfl nd_D_trouble_67 ?_
    refine lv_i2l (v := (u 0 19).toInt64) hx hb nd_D_trouble_70 rfl ?_
    refine lv_aload_n hx hb nd_D_trouble_71 rfl (lv_at hl 0 rfl) ?_
    refine va_get (D := D) (ci := 5) (v := .int (u 0 20)) (C := nR_D) (T := nT_D) (N := 28) hx hb hts nu_D hown hK hP 0 rfl rfl 20 (by decide) (hts _ gw_434) (fun _ h9 => h9) rfl nd_D_trouble_72 ?_
    refine lv_i2l (v := (u 0 20).toInt64) hx hb nd_D_trouble_75 rfl ?_
    refine lv_lsub hx hb nd_D_trouble_76 ?_
    refine my_cp (F := zb (f_D_exact (((u 0 19).toInt64) - ((u 0 20).toInt64)))) (va_runS (As := [.long (((u 0 19).toInt64) - ((u 0 20).toInt64))]) (rest := []) ⟨hx, hb, hml, hown, hts⟩ (c_D_exact l (((u 0 19).toInt64) - ((u 0 20).toInt64)) _ rfl) ⟨callB_of 1 hts (gw_in gw_573) rfl rfl rfl (hts _ gw_6) (hts _ gw_571) nh_D_exact ⟨Nat.le_of_ble_eq_true rfl, Nat.le_of_ble_eq_true rfl⟩, (hts _ gw_572)⟩ my_preP rfl rfl hl.1 rfl (lv_room (Nat.le_of_ble_eq_true rfl)) nd_D_trouble_77 ⟨Nat.le_of_ble_eq_true rfl, Nat.le_of_ble_eq_true rfl⟩) hP hS (fun H locs hP hS => ?_)
    refine lv_if_ne (tgt := 87) hx hb nd_D_trouble_80 (by decide) (fun h80 => ?_) (fun h80 => ?_)
    · have hw := (if_neg h80).symm.trans hw
      exact J87 u H locs ls hP hD hS (lv_sub hl [0] rfl) hw
    have hw := (if_pos h80).symm.trans hw
    exact J83 u H locs ls hP hD hS (lv_sub hl [0] rfl) hw
  have J24 : ∀ (u : St) (H : Heap) (locs : List Loc) (ls : Array Slot), va_P D vwCl (wMD h cA u) H → va_D A (wMD h cA u) → va_S A s.heap H locs → lv_has ls 2 [(0, .ref (h 0))] → f_D_trouble_b24 u = F →
      W p l e (headSpec nw_D_trouble ({ frames := 2, cells := 0, slots := 0, locals := 44 })).room s m ([.ref (h 0)] : List Value).toArray below meth c H locs 0 0 (MQ below (QI vwCl D (tyI cA) (wMD h cA) F A) ([.ref (h 0)] : List Value).toArray s 0 0 A) (F0 m 24 ls []) := by
    intro u H locs ls hP hD hS hl hw
    unfold f_D_trouble_b24 at hw
    refine lv_aload_n hx hb nd_D_trouble_24 rfl (lv_at hl 0 rfl) ?_
    refine va_get (D := D) (ci := 5) (v := .int (u 0 18)) (C := nR_D) (T := nT_D) (N := 28) hx hb hts nu_D hown hK hP 0 rfl rfl 18 (by decide) (hts _ gw_432) (fun _ h9 => h9) rfl nd_D_trouble_25 ?_
    refine lv_if_ne (tgt := 128) hx hb nd_D_trouble_28 (by decide) (fun h28 => ?_) (fun h28 => ?_)
    · have hw := (if_neg h28).symm.trans hw
      refine lv_aload_n hx hb nd_D_trouble_128 rfl (lv_at hl 0 rfl) ?_
      refine va_get (D := D) (ci := 5) (v := .int (u 0 18)) (C := nR_D) (T := nT_D) (N := 28) hx hb hts nu_D hown hK hP 0 rfl rfl 18 (by decide) (hts _ gw_432) (fun _ h9 => h9) rfl nd_D_trouble_129 ?_
      refine lv_bipush (v := (8 : Int32)) hx hb nd_D_trouble_132 (by decide) ?_
      refine lv_icmp_ne (tgt := 161) hx hb nd_D_trouble_134 (by decide) (fun h134 => ?_) (fun h134 => ?_)
      · have hw := (if_neg h134).symm.trans hw
        refine lv_aload_n hx hb nd_D_trouble_161 rfl (lv_at hl 0 rfl) ?_
        refine va_get (D := D) (ci := 5) (v := .int (u 0 18)) (C := nR_D) (T := nT_D) (N := 28) hx hb hts nu_D hown hK hP 0 rfl rfl 18 (by decide) (hts _ gw_432) (fun _ h9 => h9) rfl nd_D_trouble_162 ?_
        refine lv_bipush (v := (16 : Int32)) hx hb nd_D_trouble_165 (by decide) ?_
        refine lv_icmp_ne (tgt := 184) hx hb nd_D_trouble_167 (by decide) (fun h167 => ?_) (fun h167 => ?_)
        · have hw := (if_neg h167).symm.trans hw
          refine lv_aload_n hx hb nd_D_trouble_184 rfl (lv_at hl 0 rfl) ?_
          refine va_get (D := D) (ci := 5) (v := .int (u 0 18)) (C := nR_D) (T := nT_D) (N := 28) hx hb hts nu_D hown hK hP 0 rfl rfl 18 (by decide) (hts _ gw_432) (fun _ h9 => h9) rfl nd_D_trouble_185 ?_
          refine lv_bipush (v := (32 : Int32)) hx hb nd_D_trouble_188 (by decide) ?_
          refine lv_icmp_lt (tgt := 200) hx hb nd_D_trouble_190 (by decide) (fun h190 => ?_) (fun h190 => ?_)
          · have hw := (if_pos h190).symm.trans hw
            refine lv_iconst (v := (0 : Int32)) hx hb nd_D_trouble_200 (by decide) ?_
            exact my_ri (u' := u) (v := (0 : Int32)) hx hb hr hlocks hK hP hD hS hw nd_D_trouble_201
          have hw := (if_neg h190).symm.trans hw
          refine lv_aload_n hx hb nd_D_trouble_193 rfl (lv_at hl 0 rfl) ?_
          obtain ⟨r194, u194, hq194, hw⟩ := bnd_i hw
          refine my_ci (wd := wMD h cA) (r := r194) (u' := u194) (va_runV (As := []) (rest := []) ⟨hx, hb, hml, hown, hts⟩ (c_D_addressTrouble l D h cA u (r194, u194) hq194 _) ⟨callB_of 0 hts (gw_in gw_581) rfl rfl rfl (hts _ gw_6) (hts _ gw_578) nh_D_addressTrouble ⟨Nat.le_of_ble_eq_true rfl, Nat.le_of_ble_eq_true rfl⟩, (hts _ gw_580), (hts _ gw_579)⟩ (my_preV nwOk hP hK hD hN (va_recv hK hP (ci := 5) (q0 := 0) rfl rfl)) rfl rfl hl.1 rfl (lv_room (Nat.le_of_ble_eq_true rfl)) nd_D_trouble_194 ⟨Nat.le_of_ble_eq_true rfl, Nat.le_of_ble_eq_true rfl⟩) hD hS hA (fun H locs hP hD hS => ?_)
          refine lv_goto (tgt := 201) hx hb nd_D_trouble_197 (by decide) ?_
          exact my_ri (u' := u194) (v := r194) hx hb hr hlocks hK hP hD hS hw nd_D_trouble_201
        have hw := (if_pos h167).symm.trans hw
        refine lv_aload_n hx hb nd_D_trouble_170 rfl (lv_at hl 0 rfl) ?_
        refine my_ci (wd := wMD h cA) (r := zb (f_D_user u)) (u' := u) (va_runV (As := []) (rest := []) ⟨hx, hb, hml, hown, hts⟩ (c_D_user l D h cA u _ rfl _) ⟨callB_of 0 hts (gw_in gw_550) rfl rfl rfl (hts _ gw_6) (hts _ gw_547) nh_D_user ⟨Nat.le_of_ble_eq_true rfl, Nat.le_of_ble_eq_true rfl⟩, (hts _ gw_549), (hts _ gw_548)⟩ (my_preV nwOk hP hK hD hN (va_recv hK hP (ci := 5) (q0 := 0) rfl rfl)) rfl rfl hl.1 rfl (lv_room (Nat.le_of_ble_eq_true rfl)) nd_D_trouble_171 ⟨Nat.le_of_ble_eq_true rfl, Nat.le_of_ble_eq_true rfl⟩) hD hS hA (fun H locs hP hD hS => ?_)
        refine lv_if_eq (tgt := 182) hx hb nd_D_trouble_174 (by decide) (fun h174 => ?_) (fun h174 => ?_)
        · have hw := (if_pos h174).symm.trans hw
          refine lv_iconst (v := (0 : Int32)) hx hb nd_D_trouble_182 (by decide) ?_
          exact my_ri (u' := u) (v := (0 : Int32)) hx hb hr hlocks hK hP hD hS hw nd_D_trouble_183
        have hw := (if_neg h174).symm.trans hw
        refine lv_bipush (v := (11 : Int32)) hx hb nd_D_trouble_177 (by decide) ?_
        refine lv_goto (tgt := 183) hx hb nd_D_trouble_179 (by decide) ?_
        exact my_ri (u' := u) (v := (11 : Int32)) hx hb hr hlocks hK hP hD hS hw nd_D_trouble_183
      have hw := (if_pos h134).symm.trans hw
      refine lv_aload_n hx hb nd_D_trouble_137 rfl (lv_at hl 0 rfl) ?_
      refine va_get (D := D) (ci := 5) (v := .int (u 0 19)) (C := nR_D) (T := nT_D) (N := 28) hx hb hts nu_D hown hK hP 0 rfl rfl 19 (by decide) (hts _ gw_433) (fun _ h9 => h9) rfl nd_D_trouble_138 ?_
      refine lv_i2l (v := (u 0 19).toInt64) hx hb nd_D_trouble_141 rfl ?_
      refine lv_aload_n hx hb nd_D_trouble_142 rfl (lv_at hl 0 rfl) ?_
      refine my_ci (wd := wMD h cA) (r := f_D_number u) (u' := u) (va_runV (As := []) (rest := [.long ((u 0 19).toInt64)]) ⟨hx, hb, hml, hown, hts⟩ (c_D_number l D h cA u _ rfl _) ⟨callB_of 0 hts (gw_in gw_577) rfl rfl rfl (hts _ gw_6) (hts _ gw_574) nh_D_number ⟨Nat.le_of_ble_eq_true rfl, Nat.le_of_ble_eq_true rfl⟩, (hts _ gw_576), (hts _ gw_575)⟩ (my_preV nwOk hP hK hD hN (va_recv hK hP (ci := 5) (q0 := 0) rfl rfl)) rfl rfl hl.1 rfl (lv_room (Nat.le_of_ble_eq_true rfl)) nd_D_trouble_143 ⟨Nat.le_of_ble_eq_true rfl, Nat.le_of_ble_eq_true rfl⟩) hD hS hA (fun H locs hP hD hS => ?_)
      refine lv_i2l (v := (f_D_number u).toInt64) hx hb nd_D_trouble_146 rfl ?_
      refine lv_ladd hx hb nd_D_trouble_147 ?_
      refine my_cp (F := zb (f_D_exact (((u 0 19).toInt64) + ((f_D_number u).toInt64)))) (va_runS (As := [.long (((u 0 19).toInt64) + ((f_D_number u).toInt64))]) (rest := []) ⟨hx, hb, hml, hown, hts⟩ (c_D_exact l (((u 0 19).toInt64) + ((f_D_number u).toInt64)) _ rfl) ⟨callB_of 1 hts (gw_in gw_573) rfl rfl rfl (hts _ gw_6) (hts _ gw_571) nh_D_exact ⟨Nat.le_of_ble_eq_true rfl, Nat.le_of_ble_eq_true rfl⟩, (hts _ gw_572)⟩ my_preP rfl rfl hl.1 rfl (lv_room (Nat.le_of_ble_eq_true rfl)) nd_D_trouble_148 ⟨Nat.le_of_ble_eq_true rfl, Nat.le_of_ble_eq_true rfl⟩) hP hS (fun H locs hP hS => ?_)
      refine lv_if_eq (tgt := 158) hx hb nd_D_trouble_151 (by decide) (fun h151 => ?_) (fun h151 => ?_)
      · have hw := (if_pos h151).symm.trans hw
        refine lv_bipush (v := (12 : Int32)) hx hb nd_D_trouble_158 (by decide) ?_
        exact my_ri (u' := u) (v := (12 : Int32)) hx hb hr hlocks hK hP hD hS hw nd_D_trouble_160
      have hw := (if_neg h151).symm.trans hw
      refine lv_iconst (v := (0 : Int32)) hx hb nd_D_trouble_154 (by decide) ?_
      refine lv_goto (tgt := 160) hx hb nd_D_trouble_155 (by decide) ?_
      exact my_ri (u' := u) (v := (0 : Int32)) hx hb hr hlocks hK hP hD hS hw nd_D_trouble_160
    have hw := (if_pos h28).symm.trans hw
    refine lv_aload_n hx hb nd_D_trouble_31 rfl (lv_at hl 0 rfl) ?_
    refine va_get (D := D) (ci := 5) (v := .int (u 0 21)) (C := nR_D) (T := nT_D) (N := 28) hx hb hts nu_D hown hK hP 0 rfl rfl 21 (by decide) (hts _ gw_435) (fun _ h9 => h9) rfl nd_D_trouble_32 ?_
    refine lv_bipush (v := (32 : Int32)) hx hb nd_D_trouble_35 (by decide) ?_
    refine lv_icmp_ne (tgt := 57) hx hb nd_D_trouble_37 (by decide) (fun h37 => ?_) (fun h37 => ?_)
    · have hw := (if_neg h37).symm.trans hw
      exact J57 u H locs ls hP hD hS (lv_sub hl [0] rfl) hw
    have hw := (if_pos h37).symm.trans hw
    refine lv_aload_n hx hb nd_D_trouble_40 rfl (lv_at hl 0 rfl) ?_
    refine va_get (D := D) (ci := 5) (v := .int (u 0 19)) (C := nR_D) (T := nT_D) (N := 28) hx hb hts nu_D hown hK hP 0 rfl rfl 19 (by decide) (hts _ gw_433) (fun _ h9 => h9) rfl nd_D_trouble_41 ?_
    refine lv_i2l (v := (u 0 19).toInt64) hx hb nd_D_trouble_44 rfl ?_
    refine lv_aload_n hx hb nd_D_trouble_45 rfl (lv_at hl 0 rfl) ?_
    refine va_get (D := D) (ci := 5) (v := .int (u 0 20)) (C := nR_D) (T := nT_D) (N := 28) hx hb hts nu_D hown hK hP 0 rfl rfl 20 (by decide) (hts _ gw_434) (fun _ h9 => h9) rfl nd_D_trouble_46 ?_
    refine lv_i2l (v := (u 0 20).toInt64) hx hb nd_D_trouble_49 rfl ?_
    refine lv_ladd hx hb nd_D_trouble_50 ?_
    refine my_cp (F := zb (f_D_exact (((u 0 19).toInt64) + ((u 0 20).toInt64)))) (va_runS (As := [.long (((u 0 19).toInt64) + ((u 0 20).toInt64))]) (rest := []) ⟨hx, hb, hml, hown, hts⟩ (c_D_exact l (((u 0 19).toInt64) + ((u 0 20).toInt64)) _ rfl) ⟨callB_of 1 hts (gw_in gw_573) rfl rfl rfl (hts _ gw_6) (hts _ gw_571) nh_D_exact ⟨Nat.le_of_ble_eq_true rfl, Nat.le_of_ble_eq_true rfl⟩, (hts _ gw_572)⟩ my_preP rfl rfl hl.1 rfl (lv_room (Nat.le_of_ble_eq_true rfl)) nd_D_trouble_51 ⟨Nat.le_of_ble_eq_true rfl, Nat.le_of_ble_eq_true rfl⟩) hP hS (fun H locs hP hS => ?_)
    refine lv_if_eq (tgt := 83) hx hb nd_D_trouble_54 (by decide) (fun h54 => ?_) (fun h54 => ?_)
    · have hw := (if_pos h54).symm.trans hw
      exact J83 u H locs ls hP hD hS (lv_sub hl [0] rfl) hw
    have hw := (if_neg h54).symm.trans hw
    exact J57 u H locs ls hP hD hS (lv_sub hl [0] rfl) hw
  unfold f_D_trouble at hw
  refine lv_aload_n hx hb nd_D_trouble_0 rfl (lv_at hl 0 rfl) ?_
  refine my_ci (wd := wMD h cA) (r := zb (f_D_isKnown u)) (u' := u) (va_runV (As := []) (rest := []) ⟨hx, hb, hml, hown, hts⟩ (c_D_isKnown l D h cA u _ rfl _) ⟨callB_of 0 hts (gw_in gw_566) rfl rfl rfl (hts _ gw_6) (hts _ gw_563) nh_D_isKnown ⟨Nat.le_of_ble_eq_true rfl, Nat.le_of_ble_eq_true rfl⟩, (hts _ gw_565), (hts _ gw_564)⟩ (my_preV nwOk hP hK hD hN (va_recv hK hP (ci := 5) (q0 := 0) rfl rfl)) rfl rfl hl.1 rfl (lv_room (Nat.le_of_ble_eq_true rfl)) nd_D_trouble_1 ⟨Nat.le_of_ble_eq_true rfl, Nat.le_of_ble_eq_true rfl⟩) hD hS hA (fun H locs hP hD hS => ?_)
  refine lv_if_eq (tgt := 21) hx hb nd_D_trouble_4 (by decide) (fun h4 => ?_) (fun h4 => ?_)
  · have hw := (if_pos h4).symm.trans hw
    refine lv_bipush (v := (10 : Int32)) hx hb nd_D_trouble_21 (by decide) ?_
    exact my_ri (u' := u) (v := (10 : Int32)) hx hb hr hlocks hK hP hD hS hw nd_D_trouble_23
  have hw := (if_neg h4).symm.trans hw
  refine lv_aload_n hx hb nd_D_trouble_7 rfl (lv_at hl 0 rfl) ?_
  refine va_get (D := D) (ci := 5) (v := .int (zb (u 0 12))) (C := nR_D) (T := nT_D) (N := 28) hx hb hts nu_D hown hK hP 0 rfl rfl 12 (by decide) (hts _ gw_426) (fun _ h9 => h9) rfl nd_D_trouble_8 ?_
  refine lv_if_eq (tgt := 24) hx hb nd_D_trouble_11 (by decide) (fun h11 => ?_) (fun h11 => ?_)
  · have hw := (if_pos h11).symm.trans hw
    exact J24 u H locs ls hP hD hS (lv_sub hl [0] rfl) hw
  have hw := (if_neg h11).symm.trans hw
  refine lv_aload_n hx hb nd_D_trouble_14 rfl (lv_at hl 0 rfl) ?_
  refine my_ci (wd := wMD h cA) (r := zb (f_D_isBranch u)) (u' := u) (va_runV (As := []) (rest := []) ⟨hx, hb, hml, hown, hts⟩ (c_D_isBranch l D h cA u _ rfl _) ⟨callB_of 0 hts (gw_in gw_570) rfl rfl rfl (hts _ gw_6) (hts _ gw_567) nh_D_isBranch ⟨Nat.le_of_ble_eq_true rfl, Nat.le_of_ble_eq_true rfl⟩, (hts _ gw_569), (hts _ gw_568)⟩ (my_preV nwOk hP hK hD hN (va_recv hK hP (ci := 5) (q0 := 0) rfl rfl)) rfl rfl hl.1 rfl (lv_room (Nat.le_of_ble_eq_true rfl)) nd_D_trouble_15 ⟨Nat.le_of_ble_eq_true rfl, Nat.le_of_ble_eq_true rfl⟩) hD hS hA (fun H locs hP hD hS => ?_)
  refine lv_if_eq (tgt := 24) hx hb nd_D_trouble_18 (by decide) (fun h18 => ?_) (fun h18 => ?_)
  · have hw := (if_pos h18).symm.trans hw
    exact J24 u H locs ls hP hD hS (lv_sub hl [0] rfl) hw
  have hw := (if_neg h18).symm.trans hw
  refine lv_bipush (v := (10 : Int32)) hx hb nd_D_trouble_21 (by decide) ?_
  exact my_ri (u' := u) (v := (10 : Int32)) hx hb hr hlocks hK hP hD hS hw nd_D_trouble_23
set_option maxHeartbeats 4000000 in
set_option maxRecDepth 100000 in
theorem c_D_gives (l : Launch) (D : va_G) (h : Nat → Nat) (cA : Nat → ClassId) (u : St) (a1 : Int32) (a2 : Int32) (F : St) (hw : f_D_gives a1 a2 u = F) : MV nwS vwCl l ny_D_gives nw_D_gives ({ frames := 0, cells := 0, slots := 0, locals := 0 }) D (tyI cA) (wMD h cA) ([.ref (h 0), .int a1, .int a2] : List Value) u F := by
  refine my_in (gw := GW) (cc := nc_D_gives) (maxL := 3) (ret := none) (Qc := fun A => QV vwCl D (tyI cA) (wMD h cA) F A) (by decide) rfl (Nat.le_of_ble_eq_true rfl) ?_
  intro p e s m below meth c A H locs ls hx hb hml hr hts hown hlocks hK hN hA hP hD hS hl
  have hown : s.vm.findClass nR_D = some m.cls := hown
  have hl : lv_has ls 3 [(0, .ref (h 0)), (1, .int a1), (2, .int a2)] := hl
  unfold f_D_gives at hw
  refine lv_aload_n hx hb nd_D_gives_0 rfl (lv_at hl 0 rfl) ?_
  refine lv_iload_n hx hb nd_D_gives_1 rfl (lv_at hl 1 rfl) ?_
  refine va_put (D := D) (ci := 5) (v := .int a1) (ty := .int) (C := nR_D) (T := nT_D) (N := 28) hx hb hts nu_D nt_D nto_D nn_D hown hK hP hD hS 0 rfl rfl 22 (by decide) (hts _ gw_436) (fun _ h9 => h9) rfl (by decide +kernel) rfl rfl (Nat.le_of_ble_eq_true rfl) nd_D_gives_2 (fun H locs hP hD hS => ?_)
  have hP : va_P D vwCl (wMD h cA (sU u 0 22 a1)) H := hP
  have hD : va_D A (wMD h cA (sU u 0 22 a1)) := hD
  refine lv_aload_n hx hb nd_D_gives_5 rfl (lv_at hl 0 rfl) ?_
  refine lv_iload_n hx hb nd_D_gives_6 rfl (lv_at hl 2 rfl) ?_
  refine va_put (D := D) (ci := 5) (v := .int a2) (ty := .int) (C := nR_D) (T := nT_D) (N := 28) hx hb hts nu_D nt_D nto_D nn_D hown hK hP hD hS 0 rfl rfl 23 (by decide) (hts _ gw_437) (fun _ h9 => h9) rfl (by decide +kernel) rfl rfl (Nat.le_of_ble_eq_true rfl) nd_D_gives_7 (fun H locs hP hD hS => ?_)
  have hP : va_P D vwCl (wMD h cA (sU (sU u 0 22 a1) 0 23 a2)) H := hP
  have hD : va_D A (wMD h cA (sU (sU u 0 22 a1) 0 23 a2)) := hD
  exact my_rv (u' := sU (sU u 0 22 a1) 0 23 a2) hx hb hr hlocks hK hP hD hS hw nd_D_gives_10
set_option maxHeartbeats 4000000 in
set_option maxRecDepth 100000 in
theorem c_D_multiply (l : Launch) (D : va_G) (h : Nat → Nat) (cA : Nat → ClassId) (u : St) (a1 : Int32) (F : St) (hw : f_D_multiply a1 u = F) : MV nwS vwCl l ny_D_multiply nw_D_multiply ({ frames := 0, cells := 0, slots := 0, locals := 0 }) D (tyI cA) (wMD h cA) ([.ref (h 0), .int (zb a1)] : List Value) u F := by
  refine my_in (gw := GW) (cc := nc_D_multiply) (maxL := 8) (ret := none) (Qc := fun A => QV vwCl D (tyI cA) (wMD h cA) F A) (by decide) rfl (Nat.le_of_ble_eq_true rfl) ?_
  intro p e s m below meth c A H locs ls hx hb hml hr hts hown hlocks hK hN hA hP hD hS hl
  have hown : s.vm.findClass nR_D = some m.cls := hown
  have hl : lv_has ls 8 [(0, .ref (h 0)), (1, .int (zb a1))] := hl
  have J43 : ∀ (x2 : Int64) (y0 : Int64) (u : St) (H : Heap) (locs : List Loc) (ls : Array Slot), va_P D vwCl (wMD h cA u) H → va_D A (wMD h cA u) → va_S A s.heap H locs → lv_has ls 8 [(0, .ref (h 0)), (2, .long x2)] → f_D_multiply_b43 x2 y0 u = F →
      W p l e (headSpec nw_D_multiply ({ frames := 0, cells := 0, slots := 0, locals := 0 })).room s m ([.ref (h 0), .int (zb a1)] : List Value).toArray below meth c H locs 0 0 (MQ below (QV vwCl D (tyI cA) (wMD h cA) F A) ([.ref (h 0), .int (zb a1)] : List Value).toArray s 0 0 A) (F0 m 43 ls [.long y0]) := by
    intro x2 y0 u H locs ls hP hD hS hl hw
    unfold f_D_multiply_b43 at hw
    refine lv_lstore (lv' := [(4, .long y0), (0, .ref (h 0)), (2, .long x2)]) hx hb nd_D_multiply_43 hl (by decide) rfl (fun ls hl => ?_)
    refine lv_lload_n hx hb nd_D_multiply_45 rfl (lv_at hl 2 rfl) ?_
    refine lv_lload hx hb nd_D_multiply_46 (lv_at hl 0 rfl) ?_
    refine lv_lmul hx hb nd_D_multiply_48 ?_
    refine lv_lstore (lv' := [(6, .long (x2 * y0)), (4, .long y0), (0, .ref (h 0)), (2, .long x2)]) hx hb nd_D_multiply_49 hl (by decide) rfl (fun ls hl => ?_)
    refine lv_aload_n hx hb nd_D_multiply_51 rfl (lv_at hl 2 rfl) ?_
    refine va_get (D := D) (ci := 5) (v := .ref (h 2)) (C := nR_D) (T := nT_D) (N := 28) hx hb hts nu_D hown hK hP 0 rfl rfl 2 (by decide) (hts _ gw_416) (fun _ h9 => h9) rfl nd_D_multiply_52 ?_
    refine lv_bipush (v := (32 : Int32)) hx hb nd_D_multiply_55 (by decide) ?_
    refine lv_lload hx hb nd_D_multiply_57 (lv_at hl 0 rfl) ?_
    refine lv_bipush (v := (32 : Int32)) hx hb nd_D_multiply_59 (by decide) ?_
    refine lv_lshr (v := (x2 * y0) >>> ((32 : Int32).toInt64 &&& 63)) hx hb nd_D_multiply_61 rfl ?_
    refine lv_l2i (v := ((x2 * y0) >>> ((32 : Int32).toInt64 &&& 63)).toInt32) hx hb nd_D_multiply_62 rfl ?_
    refine st_MD2 hx hb hK hP hD hS (my_c34 (by decide)) nd_D_multiply_63 (fun H locs hP hD hS => ?_)
    rw [my_tn32] at hP hD
    have hP : va_P D vwCl (wMD h cA (sU u 2 32 (((x2 * y0) >>> ((32 : Int32).toInt64 &&& 63)).toInt32))) H := hP
    have hD : va_D A (wMD h cA (sU u 2 32 (((x2 * y0) >>> ((32 : Int32).toInt64 &&& 63)).toInt32))) := hD
    refine lv_aload_n hx hb nd_D_multiply_64 rfl (lv_at hl 2 rfl) ?_
    refine va_get (D := D) (ci := 5) (v := .ref (h 2)) (C := nR_D) (T := nT_D) (N := 28) hx hb hts nu_D hown hK hP 0 rfl rfl 2 (by decide) (hts _ gw_416) (fun _ h9 => h9) rfl nd_D_multiply_65 ?_
    refine lv_bipush (v := (33 : Int32)) hx hb nd_D_multiply_68 (by decide) ?_
    refine lv_lload hx hb nd_D_multiply_70 (lv_at hl 0 rfl) ?_
    refine lv_l2i (v := (x2 * y0).toInt32) hx hb nd_D_multiply_72 rfl ?_
    refine st_MD2 hx hb hK hP hD hS (my_c34 (by decide)) nd_D_multiply_73 (fun H locs hP hD hS => ?_)
    rw [my_tn33] at hP hD
    have hP : va_P D vwCl (wMD h cA (sU (sU u 2 32 (((x2 * y0) >>> ((32 : Int32).toInt64 &&& 63)).toInt32)) 2 33 ((x2 * y0).toInt32))) H := hP
    have hD : va_D A (wMD h cA (sU (sU u 2 32 (((x2 * y0) >>> ((32 : Int32).toInt64 &&& 63)).toInt32)) 2 33 ((x2 * y0).toInt32))) := hD
    exact my_rv (u' := sU (sU u 2 32 (((x2 * y0) >>> ((32 : Int32).toInt64 &&& 63)).toInt32)) 2 33 ((x2 * y0).toInt32)) hx hb hr hlocks hK hP hD hS hw nd_D_multiply_74
  have J21 : ∀ (x1 : Int32) (y0 : Int64) (u : St) (H : Heap) (locs : List Loc) (ls : Array Slot), va_P D vwCl (wMD h cA u) H → va_D A (wMD h cA u) → va_S A s.heap H locs → lv_has ls 8 [(0, .ref (h 0)), (1, .int x1)] → f_D_multiply_b21 x1 y0 u = F →
      W p l e (headSpec nw_D_multiply ({ frames := 0, cells := 0, slots := 0, locals := 0 })).room s m ([.ref (h 0), .int (zb a1)] : List Value).toArray below meth c H locs 0 0 (MQ below (QV vwCl D (tyI cA) (wMD h cA) F A) ([.ref (h 0), .int (zb a1)] : List Value).toArray s 0 0 A) (F0 m 21 ls [.long y0]) := by
    intro x1 y0 u H locs ls hP hD hS hl hw
    unfold f_D_multiply_b21 at hw
    refine lv_lstore_n (lv' := [(2, .long y0), (0, .ref (h 0)), (1, .int x1)]) hx hb nd_D_multiply_21 rfl hl (by decide) rfl (fun ls hl => ?_)
    refine lv_iload_n hx hb nd_D_multiply_22 rfl (lv_at hl 2 rfl) ?_
    refine lv_if_eq (tgt := 34) hx hb nd_D_multiply_23 (by decide) (fun h23 => ?_) (fun h23 => ?_)
    · have hw := (if_pos h23).symm.trans hw
      refine lv_aload_n hx hb nd_D_multiply_34 rfl (lv_at hl 1 rfl) ?_
      refine va_get (D := D) (ci := 5) (v := .int (u 0 20)) (C := nR_D) (T := nT_D) (N := 28) hx hb hts nu_D hown hK hP 0 rfl rfl 20 (by decide) (hts _ gw_434) (fun _ h9 => h9) rfl nd_D_multiply_35 ?_
      refine lv_i2l (v := (u 0 20).toInt64) hx hb nd_D_multiply_38 rfl ?_
      refine lv_ldc2 (own := nR_D) (v := (4294967295 : Int64)) hx hb hown (hts _ gw_606) nd_D_multiply_39 ?_
      refine lv_land hx hb nd_D_multiply_42 ?_
      exact J43 y0 (((u 0 20).toInt64) &&& (4294967295 : Int64)) u H locs ls hP hD hS (lv_sub hl [1, 0] rfl) hw
    have hw := (if_neg h23).symm.trans hw
    refine lv_aload_n hx hb nd_D_multiply_26 rfl (lv_at hl 1 rfl) ?_
    refine va_get (D := D) (ci := 5) (v := .int (u 0 20)) (C := nR_D) (T := nT_D) (N := 28) hx hb hts nu_D hown hK hP 0 rfl rfl 20 (by decide) (hts _ gw_434) (fun _ h9 => h9) rfl nd_D_multiply_27 ?_
    refine lv_i2l (v := (u 0 20).toInt64) hx hb nd_D_multiply_30 rfl ?_
    refine lv_goto (tgt := 43) hx hb nd_D_multiply_31 (by decide) ?_
    exact J43 y0 ((u 0 20).toInt64) u H locs ls hP hD hS (lv_sub hl [1, 0] rfl) hw
  unfold f_D_multiply at hw
  refine lv_iload_n hx hb nd_D_multiply_0 rfl (lv_at hl 1 rfl) ?_
  refine lv_if_eq (tgt := 12) hx hb nd_D_multiply_1 (by decide) (fun h1 => ?_) (fun h1 => ?_)
  · have hw := (if_pos h1).symm.trans hw
    refine lv_aload_n hx hb nd_D_multiply_12 rfl (lv_at hl 0 rfl) ?_
    refine va_get (D := D) (ci := 5) (v := .int (u 0 19)) (C := nR_D) (T := nT_D) (N := 28) hx hb hts nu_D hown hK hP 0 rfl rfl 19 (by decide) (hts _ gw_433) (fun _ h9 => h9) rfl nd_D_multiply_13 ?_
    refine lv_i2l (v := (u 0 19).toInt64) hx hb nd_D_multiply_16 rfl ?_
    refine lv_ldc2 (own := nR_D) (v := (4294967295 : Int64)) hx hb hown (hts _ gw_606) nd_D_multiply_17 ?_
    refine lv_land hx hb nd_D_multiply_20 ?_
    exact J21 (zb a1) (((u 0 19).toInt64) &&& (4294967295 : Int64)) u H locs ls hP hD hS (lv_sub hl [0, 1] rfl) hw
  have hw := (if_neg h1).symm.trans hw
  refine lv_aload_n hx hb nd_D_multiply_4 rfl (lv_at hl 0 rfl) ?_
  refine va_get (D := D) (ci := 5) (v := .int (u 0 19)) (C := nR_D) (T := nT_D) (N := 28) hx hb hts nu_D hown hK hP 0 rfl rfl 19 (by decide) (hts _ gw_433) (fun _ h9 => h9) rfl nd_D_multiply_5 ?_
  refine lv_i2l (v := (u 0 19).toInt64) hx hb nd_D_multiply_8 rfl ?_
  refine lv_goto (tgt := 21) hx hb nd_D_multiply_9 (by decide) ?_
  exact J21 (zb a1) ((u 0 19).toInt64) u H locs ls hP hD hS (lv_sub hl [0, 1] rfl) hw
set_option maxHeartbeats 4000000 in
set_option maxRecDepth 100000 in
theorem c_D_divide (l : Launch) (D : va_G) (h : Nat → Nat) (cA : Nat → ClassId) (u : St) (a1 : Int32) (F : St) (hw : f_D_divide a1 u = some F) : MV nwS vwCl l ny_D_divide nw_D_divide ({ frames := 0, cells := 0, slots := 0, locals := 0 }) D (tyI cA) (wMD h cA) ([.ref (h 0), .int (zb a1)] : List Value) u F := by
  refine my_in (gw := GW) (cc := nc_D_divide) (maxL := 6) (ret := none) (Qc := fun A => QV vwCl D (tyI cA) (wMD h cA) F A) (by decide) rfl (Nat.le_of_ble_eq_true rfl) ?_
  intro p e s m below meth c A H locs ls hx hb hml hr hts hown hlocks hK hN hA hP hD hS hl
  have hown : s.vm.findClass nR_D = some m.cls := hown
  have hl : lv_has ls 6 [(0, .ref (h 0)), (1, .int (zb a1))] := hl
  have J85 : ∀ (x2 : Int64) (y0 : Int64) (u : St) (H : Heap) (locs : List Loc) (ls : Array Slot), va_P D vwCl (wMD h cA u) H → va_D A (wMD h cA u) → va_S A s.heap H locs → lv_has ls 6 [(0, .ref (h 0)), (2, .long x2)] → f_D_divide_b85 x2 y0 u = some F →
      W p l e (headSpec nw_D_divide ({ frames := 0, cells := 0, slots := 0, locals := 0 })).room s m ([.ref (h 0), .int (zb a1)] : List Value).toArray below meth c H locs 0 0 (MQ below (QV vwCl D (tyI cA) (wMD h cA) F A) ([.ref (h 0), .int (zb a1)] : List Value).toArray s 0 0 A) (F0 m 85 ls [.long y0]) := by
    intro x2 y0 u H locs ls hP hD hS hl hw
    unfold f_D_divide_b85 at hw
    refine lv_lstore (lv' := [(4, .long y0), (0, .ref (h 0)), (2, .long x2)]) hx hb nd_D_divide_85 hl (by decide) rfl (fun ls hl => ?_)
    refine lv_aload_n hx hb nd_D_divide_87 rfl (lv_at hl 1 rfl) ?_
    refine va_get (D := D) (ci := 5) (v := .ref (h 2)) (C := nR_D) (T := nT_D) (N := 28) hx hb hts nu_D hown hK hP 0 rfl rfl 2 (by decide) (hts _ gw_416) (fun _ h9 => h9) rfl nd_D_divide_88 ?_
    refine lv_bipush (v := (33 : Int32)) hx hb nd_D_divide_91 (by decide) ?_
    refine lv_lload_n hx hb nd_D_divide_93 rfl (lv_at hl 2 rfl) ?_
    refine lv_lload hx hb nd_D_divide_94 (lv_at hl 0 rfl) ?_
    obtain ⟨hn96, hw⟩ := nz_i hw
    refine lv_ldiv hx hb nd_D_divide_96 hn96 ?_
    refine lv_l2i (v := (x2 / y0).toInt32) hx hb nd_D_divide_97 rfl ?_
    obtain ⟨hi98, hw⟩ := inb_i hw
    refine st_MD2 hx hb hK hP hD hS hi98 nd_D_divide_98 (fun H locs hP hD hS => ?_)
    rw [my_tn33] at hP hD
    have hP : va_P D vwCl (wMD h cA (sU u 2 33 ((x2 / y0).toInt32))) H := hP
    have hD : va_D A (wMD h cA (sU u 2 33 ((x2 / y0).toInt32))) := hD
    refine lv_aload_n hx hb nd_D_divide_99 rfl (lv_at hl 1 rfl) ?_
    refine va_get (D := D) (ci := 5) (v := .ref (h 2)) (C := nR_D) (T := nT_D) (N := 28) hx hb hts nu_D hown hK hP 0 rfl rfl 2 (by decide) (hts _ gw_416) (fun _ h9 => h9) rfl nd_D_divide_100 ?_
    refine lv_bipush (v := (32 : Int32)) hx hb nd_D_divide_103 (by decide) ?_
    refine lv_lload_n hx hb nd_D_divide_105 rfl (lv_at hl 2 rfl) ?_
    refine lv_lload hx hb nd_D_divide_106 (lv_at hl 0 rfl) ?_
    obtain ⟨hn108, hw⟩ := nz_i hw
    refine lv_lrem hx hb nd_D_divide_108 hn108 ?_
    refine lv_l2i (v := (x2 - x2 / y0 * y0).toInt32) hx hb nd_D_divide_109 rfl ?_
    obtain ⟨hi110, hw⟩ := inb_i hw
    refine st_MD2 hx hb hK hP hD hS hi110 nd_D_divide_110 (fun H locs hP hD hS => ?_)
    rw [my_tn32] at hP hD
    have hP : va_P D vwCl (wMD h cA (sU (sU u 2 33 ((x2 / y0).toInt32)) 2 32 ((x2 - x2 / y0 * y0).toInt32))) H := hP
    have hD : va_D A (wMD h cA (sU (sU u 2 33 ((x2 / y0).toInt32)) 2 32 ((x2 - x2 / y0 * y0).toInt32))) := hD
    exact my_rv (u' := sU (sU u 2 33 ((x2 / y0).toInt32)) 2 32 ((x2 - x2 / y0 * y0).toInt32)) hx hb hr hlocks hK hP hD hS (Option.some.inj hw) nd_D_divide_111
  have J63 : ∀ (x1 : Int32) (y0 : Int64) (u : St) (H : Heap) (locs : List Loc) (ls : Array Slot), va_P D vwCl (wMD h cA u) H → va_D A (wMD h cA u) → va_S A s.heap H locs → lv_has ls 6 [(0, .ref (h 0)), (1, .int x1)] → f_D_divide_b63 x1 y0 u = some F →
      W p l e (headSpec nw_D_divide ({ frames := 0, cells := 0, slots := 0, locals := 0 })).room s m ([.ref (h 0), .int (zb a1)] : List Value).toArray below meth c H locs 0 0 (MQ below (QV vwCl D (tyI cA) (wMD h cA) F A) ([.ref (h 0), .int (zb a1)] : List Value).toArray s 0 0 A) (F0 m 63 ls [.long y0]) := by
    intro x1 y0 u H locs ls hP hD hS hl hw
    unfold f_D_divide_b63 at hw
    refine lv_lstore_n (lv' := [(2, .long y0), (0, .ref (h 0)), (1, .int x1)]) hx hb nd_D_divide_63 rfl hl (by decide) rfl (fun ls hl => ?_)
    refine lv_iload_n hx hb nd_D_divide_64 rfl (lv_at hl 2 rfl) ?_
    refine lv_if_eq (tgt := 76) hx hb nd_D_divide_65 (by decide) (fun h65 => ?_) (fun h65 => ?_)
    · have hw := (if_pos h65).symm.trans hw
      refine lv_aload_n hx hb nd_D_divide_76 rfl (lv_at hl 1 rfl) ?_
      refine va_get (D := D) (ci := 5) (v := .int (u 0 20)) (C := nR_D) (T := nT_D) (N := 28) hx hb hts nu_D hown hK hP 0 rfl rfl 20 (by decide) (hts _ gw_434) (fun _ h9 => h9) rfl nd_D_divide_77 ?_
      refine lv_i2l (v := (u 0 20).toInt64) hx hb nd_D_divide_80 rfl ?_
      refine lv_ldc2 (own := nR_D) (v := (4294967295 : Int64)) hx hb hown (hts _ gw_606) nd_D_divide_81 ?_
      refine lv_land hx hb nd_D_divide_84 ?_
      exact J85 y0 (((u 0 20).toInt64) &&& (4294967295 : Int64)) u H locs ls hP hD hS (lv_sub hl [1, 0] rfl) hw
    have hw := (if_neg h65).symm.trans hw
    refine lv_aload_n hx hb nd_D_divide_68 rfl (lv_at hl 1 rfl) ?_
    refine va_get (D := D) (ci := 5) (v := .int (u 0 20)) (C := nR_D) (T := nT_D) (N := 28) hx hb hts nu_D hown hK hP 0 rfl rfl 20 (by decide) (hts _ gw_434) (fun _ h9 => h9) rfl nd_D_divide_69 ?_
    refine lv_i2l (v := (u 0 20).toInt64) hx hb nd_D_divide_72 rfl ?_
    refine lv_goto (tgt := 85) hx hb nd_D_divide_73 (by decide) ?_
    exact J85 y0 ((u 0 20).toInt64) u H locs ls hP hD hS (lv_sub hl [1, 0] rfl) hw
  have J29 : ∀ (y0 : Int32) (y1 : Int32) (u : St) (H : Heap) (locs : List Loc) (ls : Array Slot), va_P D vwCl (wMD h cA u) H → va_D A (wMD h cA u) → va_S A s.heap H locs → lv_has ls 6 [(0, .ref (h 0))] → f_D_divide_b29 y0 y1 u = some F →
      W p l e (headSpec nw_D_divide ({ frames := 0, cells := 0, slots := 0, locals := 0 })).room s m ([.ref (h 0), .int (zb a1)] : List Value).toArray below meth c H locs 0 0 (MQ below (QV vwCl D (tyI cA) (wMD h cA) F A) ([.ref (h 0), .int (zb a1)] : List Value).toArray s 0 0 A) (F0 m 29 ls [.int y0, .int y1, .ref (h 2)]) := by
    intro y0 y1 u H locs ls hP hD hS hl hw
    unfold f_D_divide_b29 at hw
    obtain ⟨hi29, hw⟩ := inb_i hw
    refine st_MD2 hx hb hK hP hD hS hi29 nd_D_divide_29 (fun H locs hP hD hS => ?_)
    have hP : va_P D vwCl (wMD h cA (sU u 2 y1.toNatClampNeg y0)) H := hP
    have hD : va_D A (wMD h cA (sU u 2 y1.toNatClampNeg y0)) := hD
    refine lv_aload_n hx hb nd_D_divide_30 rfl (lv_at hl 0 rfl) ?_
    refine va_get (D := D) (ci := 5) (v := .ref (h 2)) (C := nR_D) (T := nT_D) (N := 28) hx hb hts nu_D hown hK hP 0 rfl rfl 2 (by decide) (hts _ gw_416) (fun _ h9 => h9) rfl nd_D_divide_31 ?_
    refine lv_bipush (v := (32 : Int32)) hx hb nd_D_divide_34 (by decide) ?_
    refine lv_aload_n hx hb nd_D_divide_36 rfl (lv_at hl 0 rfl) ?_
    refine va_get (D := D) (ci := 5) (v := .int (u 0 19)) (C := nR_D) (T := nT_D) (N := 28) hx hb hts nu_D hown hK hP 0 rfl rfl 19 (by decide) (hts _ gw_433) (fun _ h9 => h9) rfl nd_D_divide_37 ?_
    obtain ⟨hi40, hw⟩ := inb_i hw
    refine st_MD2 hx hb hK hP hD hS hi40 nd_D_divide_40 (fun H locs hP hD hS => ?_)
    rw [my_tn32] at hP hD
    have hP : va_P D vwCl (wMD h cA (sU (sU u 2 y1.toNatClampNeg y0) 2 32 (u 0 19))) H := hP
    have hD : va_D A (wMD h cA (sU (sU u 2 y1.toNatClampNeg y0) 2 32 (u 0 19))) := hD
    exact my_rv (u' := sU (sU u 2 y1.toNatClampNeg y0) 2 32 (u 0 19)) hx hb hr hlocks hK hP hD hS (Option.some.inj hw) nd_D_divide_41
  have J28 : ∀ (y0 : Int32) (u : St) (H : Heap) (locs : List Loc) (ls : Array Slot), va_P D vwCl (wMD h cA u) H → va_D A (wMD h cA u) → va_S A s.heap H locs → lv_has ls 6 [(0, .ref (h 0))] → f_D_divide_b28 y0 u = some F →
      W p l e (headSpec nw_D_divide ({ frames := 0, cells := 0, slots := 0, locals := 0 })).room s m ([.ref (h 0), .int (zb a1)] : List Value).toArray below meth c H locs 0 0 (MQ below (QV vwCl D (tyI cA) (wMD h cA) F A) ([.ref (h 0), .int (zb a1)] : List Value).toArray s 0 0 A) (F0 m 28 ls [.int y0, .ref (h 2)]) := by
    intro y0 u H locs ls hP hD hS hl hw
    unfold f_D_divide_b28 at hw
    refine lv_iconst (v := (-1 : Int32)) hx hb nd_D_divide_28 (by decide) ?_
    exact J29 (-1 : Int32) y0 u H locs ls hP hD hS (lv_sub hl [0] rfl) hw
  unfold f_D_divide at hw
  refine lv_aload_n hx hb nd_D_divide_0 rfl (lv_at hl 0 rfl) ?_
  refine va_get (D := D) (ci := 5) (v := .int (u 0 20)) (C := nR_D) (T := nT_D) (N := 28) hx hb hts nu_D hown hK hP 0 rfl rfl 20 (by decide) (hts _ gw_434) (fun _ h9 => h9) rfl nd_D_divide_1 ?_
  refine lv_if_ne (tgt := 42) hx hb nd_D_divide_4 (by decide) (fun h4 => ?_) (fun h4 => ?_)
  · have hw := (if_neg h4).symm.trans hw
    refine lv_iload_n hx hb nd_D_divide_42 rfl (lv_at hl 1 rfl) ?_
    refine lv_if_eq (tgt := 54) hx hb nd_D_divide_43 (by decide) (fun h43 => ?_) (fun h43 => ?_)
    · have hw := (if_pos h43).symm.trans hw
      refine lv_aload_n hx hb nd_D_divide_54 rfl (lv_at hl 0 rfl) ?_
      refine va_get (D := D) (ci := 5) (v := .int (u 0 19)) (C := nR_D) (T := nT_D) (N := 28) hx hb hts nu_D hown hK hP 0 rfl rfl 19 (by decide) (hts _ gw_433) (fun _ h9 => h9) rfl nd_D_divide_55 ?_
      refine lv_i2l (v := (u 0 19).toInt64) hx hb nd_D_divide_58 rfl ?_
      refine lv_ldc2 (own := nR_D) (v := (4294967295 : Int64)) hx hb hown (hts _ gw_606) nd_D_divide_59 ?_
      refine lv_land hx hb nd_D_divide_62 ?_
      exact J63 (zb a1) (((u 0 19).toInt64) &&& (4294967295 : Int64)) u H locs ls hP hD hS (lv_sub hl [0, 1] rfl) hw
    have hw := (if_neg h43).symm.trans hw
    refine lv_aload_n hx hb nd_D_divide_46 rfl (lv_at hl 0 rfl) ?_
    refine va_get (D := D) (ci := 5) (v := .int (u 0 19)) (C := nR_D) (T := nT_D) (N := 28) hx hb hts nu_D hown hK hP 0 rfl rfl 19 (by decide) (hts _ gw_433) (fun _ h9 => h9) rfl nd_D_divide_47 ?_
    refine lv_i2l (v := (u 0 19).toInt64) hx hb nd_D_divide_50 rfl ?_
    refine lv_goto (tgt := 63) hx hb nd_D_divide_51 (by decide) ?_
    exact J63 (zb a1) ((u 0 19).toInt64) u H locs ls hP hD hS (lv_sub hl [0, 1] rfl) hw
  have hw := (if_pos h4).symm.trans hw
  refine lv_aload_n hx hb nd_D_divide_7 rfl (lv_at hl 0 rfl) ?_
  refine va_get (D := D) (ci := 5) (v := .ref (h 2)) (C := nR_D) (T := nT_D) (N := 28) hx hb hts nu_D hown hK hP 0 rfl rfl 2 (by decide) (hts _ gw_416) (fun _ h9 => h9) rfl nd_D_divide_8 ?_
  refine lv_bipush (v := (33 : Int32)) hx hb nd_D_divide_11 (by decide) ?_
  refine lv_iload_n hx hb nd_D_divide_13 rfl (lv_at hl 1 rfl) ?_
  refine lv_if_eq (tgt := 28) hx hb nd_D_divide_14 (by decide) (fun h14 => ?_) (fun h14 => ?_)
  · have hw := (if_pos h14).symm.trans hw
    exact J28 (33 : Int32) u H locs ls hP hD hS (lv_sub hl [0] rfl) hw
  have hw := (if_neg h14).symm.trans hw
  refine lv_aload_n hx hb nd_D_divide_17 rfl (lv_at hl 0 rfl) ?_
  refine va_get (D := D) (ci := 5) (v := .int (u 0 19)) (C := nR_D) (T := nT_D) (N := 28) hx hb hts nu_D hown hK hP 0 rfl rfl 19 (by decide) (hts _ gw_433) (fun _ h9 => h9) rfl nd_D_divide_18 ?_
  refine lv_if_ge (tgt := 28) hx hb nd_D_divide_21 (by decide) (fun h21 => ?_) (fun h21 => ?_)
  · have hw := (if_pos h21).symm.trans hw
    exact J28 (33 : Int32) u H locs ls hP hD hS (lv_sub hl [0] rfl) hw
  have hw := (if_neg h21).symm.trans hw
  refine lv_iconst (v := (1 : Int32)) hx hb nd_D_divide_24 (by decide) ?_
  refine lv_goto (tgt := 29) hx hb nd_D_divide_25 (by decide) ?_
  exact J29 (1 : Int32) (33 : Int32) u H locs ls hP hD hS (lv_sub hl [0] rfl) hw
set_option maxHeartbeats 4000000 in
set_option maxRecDepth 100000 in
theorem c_D_shifts (l : Launch) (D : va_G) (h : Nat → Nat) (cA : Nat → ClassId) (u : St) (a1 : Int32) (F : St) (hw : f_D_shifts a1 u = F) : MV nwS vwCl l ny_D_shifts nw_D_shifts ({ frames := 1, cells := 0, slots := 0, locals := 22 }) D (tyI cA) (wMD h cA) ([.ref (h 0), .int a1] : List Value) u F := by
  refine my_in (gw := GW) (cc := nc_D_shifts) (maxL := 3) (ret := none) (Qc := fun A => QV vwCl D (tyI cA) (wMD h cA) F A) (by decide) rfl (Nat.le_of_ble_eq_true rfl) ?_
  intro p e s m below meth c A H locs ls hx hb hml hr hts hown hlocks hK hN hA hP hD hS hl
  have hown : s.vm.findClass nR_D = some m.cls := hown
  have hl : lv_has ls 3 [(0, .ref (h 0)), (1, .int a1)] := hl
  have J74 : ∀ (y0 : Int32) (y1 : Int32) (u : St) (H : Heap) (locs : List Loc) (ls : Array Slot), va_P D vwCl (wMD h cA u) H → va_D A (wMD h cA u) → va_S A s.heap H locs → lv_has ls 3 [] → f_D_shifts_b74 y0 y1 u = F →
      W p l e (headSpec nw_D_shifts ({ frames := 1, cells := 0, slots := 0, locals := 22 })).room s m ([.ref (h 0), .int a1] : List Value).toArray below meth c H locs 0 0 (MQ below (QV vwCl D (tyI cA) (wMD h cA) F A) ([.ref (h 0), .int a1] : List Value).toArray s 0 0 A) (F0 m 74 ls [.int y0, .int y1, .ref (h 0)]) := by
    intro y0 y1 u H locs ls hP hD hS hl hw
    unfold f_D_shifts_b74 at hw
    obtain ⟨u74, hq74, hw⟩ := bnv_i hw
    refine my_cv (wd := wMD h cA) (F := u74) (va_runV (As := [.int y1, .int y0]) (rest := []) ⟨hx, hb, hml, hown, hts⟩ (c_D_gives l D h cA u y1 y0 u74 hq74 _) ⟨callB_of 2 hts (gw_in gw_601) rfl rfl rfl (hts _ gw_6) (hts _ gw_598) nh_D_gives ⟨Nat.le_of_ble_eq_true rfl, Nat.le_of_ble_eq_true rfl⟩, (hts _ gw_600), (hts _ gw_599)⟩ (my_preV nwOk hP hK hD hN (va_recv hK hP (ci := 5) (q0 := 0) rfl rfl)) rfl rfl hl.1 rfl (lv_room (Nat.le_of_ble_eq_true rfl)) nd_D_shifts_74 ⟨Nat.le_of_ble_eq_true rfl, Nat.le_of_ble_eq_true rfl⟩) hD hS hA (fun H locs hP hD hS => ?_)
    exact my_rv (u' := u74) hx hb hr hlocks hK hP hD hS hw nd_D_shifts_77
  have J28 : ∀ (x1 : Int32) (y0 : Int32) (u : St) (H : Heap) (locs : List Loc) (ls : Array Slot), va_P D vwCl (wMD h cA u) H → va_D A (wMD h cA u) → va_S A s.heap H locs → lv_has ls 3 [(0, .ref (h 0)), (1, .int x1)] → f_D_shifts_b28 x1 y0 u = F →
      W p l e (headSpec nw_D_shifts ({ frames := 1, cells := 0, slots := 0, locals := 22 })).room s m ([.ref (h 0), .int a1] : List Value).toArray below meth c H locs 0 0 (MQ below (QV vwCl D (tyI cA) (wMD h cA) F A) ([.ref (h 0), .int a1] : List Value).toArray s 0 0 A) (F0 m 28 ls [.int y0]) := by
    intro x1 y0 u H locs ls hP hD hS hl hw
    unfold f_D_shifts_b28 at hw
    refine lv_istore_n (lv' := [(2, .int y0), (0, .ref (h 0)), (1, .int x1)]) hx hb nd_D_shifts_28 rfl hl (by decide) rfl (fun ls hl => ?_)
    refine lv_aload_n hx hb nd_D_shifts_29 rfl (lv_at hl 1 rfl) ?_
    refine lv_iload_n hx hb nd_D_shifts_30 rfl (lv_at hl 2 rfl) ?_
    refine lv_aload_n hx hb nd_D_shifts_31 rfl (lv_at hl 1 rfl) ?_
    refine va_get (D := D) (ci := 5) (v := .int (u 0 21)) (C := nR_D) (T := nT_D) (N := 28) hx hb hts nu_D hown hK hP 0 rfl rfl 21 (by decide) (hts _ gw_435) (fun _ h9 => h9) rfl nd_D_shifts_32 ?_
    refine lv_iconst (v := (4 : Int32)) hx hb nd_D_shifts_35 (by decide) ?_
    refine lv_irem hx hb nd_D_shifts_36 (by decide) ?_
    refine lv_if_ne (tgt := 49) hx hb nd_D_shifts_37 (by decide) (fun h37 => ?_) (fun h37 => ?_)
    · have hw := (if_neg h37).symm.trans hw
      refine lv_aload_n hx hb nd_D_shifts_49 rfl (lv_at hl 1 rfl) ?_
      refine va_get (D := D) (ci := 5) (v := .int (u 0 21)) (C := nR_D) (T := nT_D) (N := 28) hx hb hts nu_D hown hK hP 0 rfl rfl 21 (by decide) (hts _ gw_435) (fun _ h9 => h9) rfl nd_D_shifts_50 ?_
      refine lv_iconst (v := (4 : Int32)) hx hb nd_D_shifts_53 (by decide) ?_
      refine lv_irem hx hb nd_D_shifts_54 (by decide) ?_
      refine lv_iconst (v := (2 : Int32)) hx hb nd_D_shifts_55 (by decide) ?_
      refine lv_icmp_ne (tgt := 68) hx hb nd_D_shifts_56 (by decide) (fun h56 => ?_) (fun h56 => ?_)
      · have hw := (if_neg h56).symm.trans hw
        refine lv_aload_n hx hb nd_D_shifts_68 rfl (lv_at hl 1 rfl) ?_
        refine va_get (D := D) (ci := 5) (v := .int (u 0 20)) (C := nR_D) (T := nT_D) (N := 28) hx hb hts nu_D hown hK hP 0 rfl rfl 20 (by decide) (hts _ gw_434) (fun _ h9 => h9) rfl nd_D_shifts_69 ?_
        refine lv_iload_n hx hb nd_D_shifts_72 rfl (lv_at hl 0 rfl) ?_
        refine lv_ishr hx hb nd_D_shifts_73 ?_
        exact J74 ((u 0 20) >>> (y0 &&& 31)) x1 u H locs ls hP hD hS (lv_sub hl [] rfl) hw
      have hw := (if_pos h56).symm.trans hw
      refine lv_aload_n hx hb nd_D_shifts_59 rfl (lv_at hl 1 rfl) ?_
      refine va_get (D := D) (ci := 5) (v := .int (u 0 20)) (C := nR_D) (T := nT_D) (N := 28) hx hb hts nu_D hown hK hP 0 rfl rfl 20 (by decide) (hts _ gw_434) (fun _ h9 => h9) rfl nd_D_shifts_60 ?_
      refine lv_iload_n hx hb nd_D_shifts_63 rfl (lv_at hl 0 rfl) ?_
      refine lv_iushr (v := ush (u 0 20) y0) hx hb nd_D_shifts_64 rfl ?_
      refine lv_goto (tgt := 74) hx hb nd_D_shifts_65 (by decide) ?_
      exact J74 (ush (u 0 20) y0) x1 u H locs ls hP hD hS (lv_sub hl [] rfl) hw
    have hw := (if_pos h37).symm.trans hw
    refine lv_aload_n hx hb nd_D_shifts_40 rfl (lv_at hl 1 rfl) ?_
    refine va_get (D := D) (ci := 5) (v := .int (u 0 20)) (C := nR_D) (T := nT_D) (N := 28) hx hb hts nu_D hown hK hP 0 rfl rfl 20 (by decide) (hts _ gw_434) (fun _ h9 => h9) rfl nd_D_shifts_41 ?_
    refine lv_iload_n hx hb nd_D_shifts_44 rfl (lv_at hl 0 rfl) ?_
    refine lv_ishl hx hb nd_D_shifts_45 ?_
    refine lv_goto (tgt := 74) hx hb nd_D_shifts_46 (by decide) ?_
    exact J74 ((u 0 20) <<< (y0 &&& 31)) x1 u H locs ls hP hD hS (lv_sub hl [] rfl) hw
  unfold f_D_shifts at hw
  refine lv_aload_n hx hb nd_D_shifts_0 rfl (lv_at hl 0 rfl) ?_
  refine va_get (D := D) (ci := 5) (v := .int (u 0 21)) (C := nR_D) (T := nT_D) (N := 28) hx hb hts nu_D hown hK hP 0 rfl rfl 21 (by decide) (hts _ gw_435) (fun _ h9 => h9) rfl nd_D_shifts_1 ?_
  refine lv_iconst (v := (4 : Int32)) hx hb nd_D_shifts_4 (by decide) ?_
  refine lv_icmp_ge (tgt := 21) hx hb nd_D_shifts_5 (by decide) (fun h5 => ?_) (fun h5 => ?_)
  · have hw := (if_pos h5).symm.trans hw
    refine lv_aload_n hx hb nd_D_shifts_21 rfl (lv_at hl 0 rfl) ?_
    refine va_get (D := D) (ci := 5) (v := .int (u 0 19)) (C := nR_D) (T := nT_D) (N := 28) hx hb hts nu_D hown hK hP 0 rfl rfl 19 (by decide) (hts _ gw_433) (fun _ h9 => h9) rfl nd_D_shifts_22 ?_
    refine lv_bipush (v := (31 : Int32)) hx hb nd_D_shifts_25 (by decide) ?_
    refine lv_iand hx hb nd_D_shifts_27 ?_
    exact J28 a1 ((u 0 19) &&& (31 : Int32)) u H locs ls hP hD hS (lv_sub hl [0, 1] rfl) hw
  have hw := (if_neg h5).symm.trans hw
  refine lv_aload_n hx hb nd_D_shifts_8 rfl (lv_at hl 0 rfl) ?_
  refine va_get (D := D) (ci := 5) (v := .int (u 0 17)) (C := nR_D) (T := nT_D) (N := 28) hx hb hts nu_D hown hK hP 0 rfl rfl 17 (by decide) (hts _ gw_431) (fun _ h9 => h9) rfl nd_D_shifts_9 ?_
  refine lv_bipush (v := (6 : Int32)) hx hb nd_D_shifts_12 (by decide) ?_
  refine lv_ishr hx hb nd_D_shifts_14 ?_
  refine lv_bipush (v := (31 : Int32)) hx hb nd_D_shifts_15 (by decide) ?_
  refine lv_iand hx hb nd_D_shifts_17 ?_
  refine lv_goto (tgt := 28) hx hb nd_D_shifts_18 (by decide) ?_
  exact J28 a1 (((u 0 17) >>> ((6 : Int32) &&& 31)) &&& (31 : Int32)) u H locs ls hP hD hS (lv_sub hl [0, 1] rfl) hw
