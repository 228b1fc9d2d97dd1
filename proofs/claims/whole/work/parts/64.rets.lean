set_option maxHeartbeats 4000000 in
set_option maxRecDepth 100000 in
theorem c_S_put (l : Launch) (D : va_G) (h : Nat → Nat) (cA : Nat → ClassId) (u : St) (a1 : Int32) (a2 : Int32) (F : Int32 × St) (hw : f_S_put a1 a2 u = some F) : MI nwS vwCl l ny_S_put nw_S_put ({ frames := 2, cells := 0, slots := 0, locals := 42 }) D (tyI cA) (wSC h cA) ([.ref (h 0), .int a1, .int a2] : List Value) u F := by
  refine my_in (gw := GW) (cc := nc_S_put) (maxL := 4) (ret := (some .int)) (Qc := fun A => QI vwCl D (tyI cA) (wSC h cA) F A) (by decide) rfl (Nat.le_of_ble_eq_true rfl) ?_
  intro p e s m below meth c A H locs ls hx hb hml hr hts hown hlocks hK hN hA hP hD hS hl
  have hown : s.vm.findClass nR_S = some m.cls := hown
  have hl : lv_has ls 4 [(0, .ref (h 0)), (1, .int a1), (2, .int a2)] := hl
  unfold f_S_put at hw
  refine lv_iload_n hx hb nd_S_put_0 rfl (lv_at hl 1 rfl) ?_
  refine my_cp (F := zb (f_S_isPlaceOfWord a1)) (va_runS (As := [.int a1]) (rest := []) ⟨hx, hb, hml, hown, hts⟩ (c_S_isPlaceOfWord l a1 _ rfl) ⟨callB_of 1 hts (gw_in gw_371) rfl rfl rfl (hts _ gw_1) (hts _ gw_369) nh_S_isPlaceOfWord ⟨Nat.le_of_ble_eq_true rfl, Nat.le_of_ble_eq_true rfl⟩, (hts _ gw_370)⟩ my_preP rfl rfl hl.1 rfl (lv_room (Nat.le_of_ble_eq_true rfl)) nd_S_put_1 ⟨Nat.le_of_ble_eq_true rfl, Nat.le_of_ble_eq_true rfl⟩) hP hS (fun H locs hP hS => ?_)
  refine lv_if_ne (tgt := 15) hx hb nd_S_put_4 (by decide) (fun h4 => ?_) (fun h4 => ?_)
  · have hw := (if_neg h4).symm.trans hw
    refine lv_aload_n hx hb nd_S_put_15 rfl (lv_at hl 0 rfl) ?_
    refine va_get (D := D) (ci := 0) (v := .ref (h 1)) (C := nR_S) (T := nT_S) (N := 9) hx hb hts nu_S hown hK hP 0 rfl rfl 0 (by decide) (hts _ gw_63) (fun _ h9 => h9) rfl nd_S_put_16 ?_
    refine lv_iload_n hx hb nd_S_put_19 rfl (lv_at hl 1 rfl) ?_
    refine my_ci (wd := wSC h cA) (r := f_M_wordAround a1 u) (u' := u) (va_runVN (As := [.int a1]) (rest := []) ⟨hx, hb, hml, hown, hts⟩ (c_M_wordAround l D h cA u a1 _ rfl _) ⟨va_cnB 1 hts (gw_in gw_166) rfl rfl rfl (hN _ nm_24) (hts _ gw_2) nh_M_wordAround ⟨Nat.le_of_ble_eq_true rfl, Nat.le_of_ble_eq_true rfl⟩, (hts _ gw_165), (hts _ gw_164)⟩ (my_preV nwOk hP hK hD hN (va_recv hK hP (ci := 1) (q0 := 1) rfl rfl)) rfl rfl hl.1 rfl (lv_room (Nat.le_of_ble_eq_true rfl)) nd_S_put_20 ⟨Nat.le_of_ble_eq_true rfl, Nat.le_of_ble_eq_true rfl⟩) hD hS hA (fun H locs hP hD hS => ?_)
    refine lv_istore_n (lv' := [(3, .int (f_M_wordAround a1 u)), (0, .ref (h 0)), (1, .int a1), (2, .int a2)]) hx hb nd_S_put_23 rfl hl (by decide) rfl (fun ls hl => ?_)
    refine lv_aload_n hx hb nd_S_put_24 rfl (lv_at hl 1 rfl) ?_
    refine va_get (D := D) (ci := 0) (v := .ref (h 1)) (C := nR_S) (T := nT_S) (N := 9) hx hb hts nu_S hown hK hP 0 rfl rfl 0 (by decide) (hts _ gw_63) (fun _ h9 => h9) rfl nd_S_put_25 ?_
    refine lv_iload_n hx hb nd_S_put_28 rfl (lv_at hl 2 rfl) ?_
    refine lv_iload_n hx hb nd_S_put_29 rfl (lv_at hl 3 rfl) ?_
    obtain ⟨u30, hq30, hw⟩ := bnv_i hw
    refine my_cv (wd := wSC h cA) (F := u30) (va_runVN (As := [.int a1, .int a2]) (rest := []) ⟨hx, hb, hml, hown, hts⟩ (c_M_replaceWord l D h cA u a1 a2 u30 hq30 _) ⟨va_cnB 2 hts (gw_in gw_358) rfl rfl rfl (hN _ nm_32) (hts _ gw_2) nh_M_replaceWord ⟨Nat.le_of_ble_eq_true rfl, Nat.le_of_ble_eq_true rfl⟩, (hts _ gw_357), (hts _ gw_356)⟩ (my_preV nwOk hP hK hD hN (va_recv hK hP (ci := 1) (q0 := 1) rfl rfl)) rfl rfl hl.1 rfl (lv_room (Nat.le_of_ble_eq_true rfl)) nd_S_put_30 ⟨Nat.le_of_ble_eq_true rfl, Nat.le_of_ble_eq_true rfl⟩) hD hS hA (fun H locs hP hD hS => ?_)
    refine lv_iload_n hx hb nd_S_put_33 rfl (lv_at hl 0 rfl) ?_
    exact my_ri (u' := u30) (v := f_M_wordAround a1 u) hx hb hr hlocks hK hP hD hS (Option.some.inj hw) nd_S_put_34
  have hw := (if_pos h4).symm.trans hw
  cases hw
set_option maxHeartbeats 4000000 in
set_option maxRecDepth 100000 in
theorem c_S_word (l : Launch) (D : va_G) (h : Nat → Nat) (cA : Nat → ClassId) (u : St) (a1 : Int32) (F : Int32) (hw : f_S_word a1 u = some F) : MI nwS vwCl l ny_S_word nw_S_word ({ frames := 2, cells := 0, slots := 0, locals := 41 }) D (tyI cA) (wSC h cA) ([.ref (h 0), .int a1] : List Value) u (F, u) := by
  refine my_in (gw := GW) (cc := nc_S_word) (maxL := 2) (ret := (some .int)) (Qc := fun A => QI vwCl D (tyI cA) (wSC h cA) (F, u) A) (by decide) rfl (Nat.le_of_ble_eq_true rfl) ?_
  intro p e s m below meth c A H locs ls hx hb hml hr hts hown hlocks hK hN hA hP hD hS hl
  have hown : s.vm.findClass nR_S = some m.cls := hown
  have hl : lv_has ls 2 [(0, .ref (h 0)), (1, .int a1)] := hl
  unfold f_S_word at hw
  refine lv_iload_n hx hb nd_S_word_0 rfl (lv_at hl 1 rfl) ?_
  refine my_cp (F := zb (f_S_isPlaceOfWord a1)) (va_runS (As := [.int a1]) (rest := []) ⟨hx, hb, hml, hown, hts⟩ (c_S_isPlaceOfWord l a1 _ rfl) ⟨callB_of 1 hts (gw_in gw_371) rfl rfl rfl (hts _ gw_1) (hts _ gw_369) nh_S_isPlaceOfWord ⟨Nat.le_of_ble_eq_true rfl, Nat.le_of_ble_eq_true rfl⟩, (hts _ gw_370)⟩ my_preP rfl rfl hl.1 rfl (lv_room (Nat.le_of_ble_eq_true rfl)) nd_S_word_1 ⟨Nat.le_of_ble_eq_true rfl, Nat.le_of_ble_eq_true rfl⟩) hP hS (fun H locs hP hS => ?_)
  refine lv_if_ne (tgt := 15) hx hb nd_S_word_4 (by decide) (fun h4 => ?_) (fun h4 => ?_)
  · have hw := (if_neg h4).symm.trans hw
    refine lv_aload_n hx hb nd_S_word_15 rfl (lv_at hl 0 rfl) ?_
    refine va_get (D := D) (ci := 0) (v := .ref (h 1)) (C := nR_S) (T := nT_S) (N := 9) hx hb hts nu_S hown hK hP 0 rfl rfl 0 (by decide) (hts _ gw_63) (fun _ h9 => h9) rfl nd_S_word_16 ?_
    refine lv_iload_n hx hb nd_S_word_19 rfl (lv_at hl 1 rfl) ?_
    refine my_ci (wd := wSC h cA) (r := f_M_wordAround a1 u) (u' := u) (va_runVN (As := [.int a1]) (rest := []) ⟨hx, hb, hml, hown, hts⟩ (c_M_wordAround l D h cA u a1 _ rfl _) ⟨va_cnB 1 hts (gw_in gw_166) rfl rfl rfl (hN _ nm_24) (hts _ gw_2) nh_M_wordAround ⟨Nat.le_of_ble_eq_true rfl, Nat.le_of_ble_eq_true rfl⟩, (hts _ gw_165), (hts _ gw_164)⟩ (my_preV nwOk hP hK hD hN (va_recv hK hP (ci := 1) (q0 := 1) rfl rfl)) rfl rfl hl.1 rfl (lv_room (Nat.le_of_ble_eq_true rfl)) nd_S_word_20 ⟨Nat.le_of_ble_eq_true rfl, Nat.le_of_ble_eq_true rfl⟩) hD hS hA (fun H locs hP hD hS => ?_)
    exact my_ri (u' := u) (v := f_M_wordAround a1 u) hx hb hr hlocks hK hP hD hS (congrArg (fun z9 => (z9, u)) (Option.some.inj hw)) nd_S_word_23
  have hw := (if_pos h4).symm.trans hw
  cases hw
set_option maxHeartbeats 4000000 in
set_option maxRecDepth 100000 in
theorem c_S_set (l : Launch) (D : va_G) (h : Nat → Nat) (cA : Nat → ClassId) (u : St) (a1 : Int32) (a2 : Int32) (F : Int32 × St) (hw : f_S_set a1 a2 u = some F) : MI nwS vwCl l ny_S_set nw_S_set ({ frames := 1, cells := 0, slots := 0, locals := 22 }) D (tyI cA) (wSC h cA) ([.ref (h 0), .int a1, .int a2] : List Value) u F := by
  refine my_in (gw := GW) (cc := nc_S_set) (maxL := 4) (ret := (some .int)) (Qc := fun A => QI vwCl D (tyI cA) (wSC h cA) F A) (by decide) rfl (Nat.le_of_ble_eq_true rfl) ?_
  intro p e s m below meth c A H locs ls hx hb hml hr hts hown hlocks hK hN hA hP hD hS hl
  have hown : s.vm.findClass nR_S = some m.cls := hown
  have hl : lv_has ls 4 [(0, .ref (h 0)), (1, .int a1), (2, .int a2)] := hl
  have J10 : ∀ (u : St) (H : Heap) (locs : List Loc) (ls : Array Slot), va_P D vwCl (wSC h cA u) H → va_D A (wSC h cA u) → va_S A s.heap H locs → lv_has ls 4 [] → f_S_set_b10 u = some F →
      W p l e (headSpec nw_S_set ({ frames := 1, cells := 0, slots := 0, locals := 22 })).room s m ([.ref (h 0), .int a1, .int a2] : List Value).toArray below meth c H locs 0 0 (MQ below (QI vwCl D (tyI cA) (wSC h cA) F A) ([.ref (h 0), .int a1, .int a2] : List Value).toArray s 0 0 A) (F0 m 10 ls []) := by
    intro u H locs ls hP hD hS hl hw
    unfold f_S_set_b10 at hw
    cases hw
  unfold f_S_set at hw
  refine lv_iload_n hx hb nd_S_set_0 rfl (lv_at hl 1 rfl) ?_
  refine lv_if_lt (tgt := 10) hx hb nd_S_set_1 (by decide) (fun h1 => ?_) (fun h1 => ?_)
  · have hw := (if_pos h1).symm.trans hw
    exact J10 u H locs ls hP hD hS (lv_sub hl [] rfl) hw
  have hw := (if_neg h1).symm.trans hw
  refine lv_iload_n hx hb nd_S_set_4 rfl (lv_at hl 1 rfl) ?_
  refine lv_bipush (v := (34 : Int32)) hx hb nd_S_set_5 (by decide) ?_
  refine lv_icmp_lt (tgt := 18) hx hb nd_S_set_7 (by decide) (fun h7 => ?_) (fun h7 => ?_)
  · have hw := (if_pos h7).symm.trans hw
    refine lv_aload_n hx hb nd_S_set_18 rfl (lv_at hl 0 rfl) ?_
    refine va_get (D := D) (ci := 0) (v := .ref (h 3)) (C := nR_S) (T := nT_S) (N := 9) hx hb hts nu_S hown hK hP 0 rfl rfl 1 (by decide) (hts _ gw_64) (fun _ h9 => h9) rfl nd_S_set_19 ?_
    refine lv_iload_n hx hb nd_S_set_22 rfl (lv_at hl 1 rfl) ?_
    refine my_ci (wd := wSC h cA) (r := f_R_valueOf a1 u) (u' := u) (va_runVN (As := [.int a1]) (rest := []) ⟨hx, hb, hml, hown, hts⟩ (c_R_valueOf l D h cA u a1 _ rfl _) ⟨va_cnB 1 hts (gw_in gw_206) rfl rfl rfl (hN _ nm_26) (hts _ gw_3) nh_R_valueOf ⟨Nat.le_of_ble_eq_true rfl, Nat.le_of_ble_eq_true rfl⟩, (hts _ gw_205), (hts _ gw_204)⟩ (my_preV nwOk hP hK hD hN (va_recv hK hP (ci := 2) (q0 := 3) rfl rfl)) rfl rfl hl.1 rfl (lv_room (Nat.le_of_ble_eq_true rfl)) nd_S_set_23 ⟨Nat.le_of_ble_eq_true rfl, Nat.le_of_ble_eq_true rfl⟩) hD hS hA (fun H locs hP hD hS => ?_)
    refine lv_istore_n (lv' := [(3, .int (f_R_valueOf a1 u)), (0, .ref (h 0)), (1, .int a1), (2, .int a2)]) hx hb nd_S_set_26 rfl hl (by decide) rfl (fun ls hl => ?_)
    refine lv_aload_n hx hb nd_S_set_27 rfl (lv_at hl 1 rfl) ?_
    refine va_get (D := D) (ci := 0) (v := .ref (h 3)) (C := nR_S) (T := nT_S) (N := 9) hx hb hts nu_S hown hK hP 0 rfl rfl 1 (by decide) (hts _ gw_64) (fun _ h9 => h9) rfl nd_S_set_28 ?_
    refine lv_iload_n hx hb nd_S_set_31 rfl (lv_at hl 2 rfl) ?_
    refine lv_iload_n hx hb nd_S_set_32 rfl (lv_at hl 3 rfl) ?_
    obtain ⟨u33, hq33, hw⟩ := bnv_i hw
    refine my_cv (wd := wSC h cA) (F := u33) (va_runVN (As := [.int a1, .int a2]) (rest := []) ⟨hx, hb, hml, hown, hts⟩ (c_R_change l D h cA u a1 a2 u33 hq33 _) ⟨va_cnB 2 hts (gw_in gw_143) rfl rfl rfl (hN _ nm_27) (hts _ gw_3) nh_R_change ⟨Nat.le_of_ble_eq_true rfl, Nat.le_of_ble_eq_true rfl⟩, (hts _ gw_142), (hts _ gw_141)⟩ (my_preV nwOk hP hK hD hN (va_recv hK hP (ci := 2) (q0 := 3) rfl rfl)) rfl rfl hl.1 rfl (lv_room (Nat.le_of_ble_eq_true rfl)) nd_S_set_33 ⟨Nat.le_of_ble_eq_true rfl, Nat.le_of_ble_eq_true rfl⟩) hD hS hA (fun H locs hP hD hS => ?_)
    refine lv_iload_n hx hb nd_S_set_36 rfl (lv_at hl 0 rfl) ?_
    exact my_ri (u' := u33) (v := f_R_valueOf a1 u) hx hb hr hlocks hK hP hD hS (Option.some.inj hw) nd_S_set_37
  have hw := (if_neg h7).symm.trans hw
  exact J10 u H locs ls hP hD hS (lv_sub hl [] rfl) hw
set_option maxHeartbeats 4000000 in
set_option maxRecDepth 100000 in
theorem c_S_register (l : Launch) (D : va_G) (h : Nat → Nat) (cA : Nat → ClassId) (u : St) (a1 : Int32) (F : Int32) (hw : f_S_register a1 u = some F) : MI nwS vwCl l ny_S_register nw_S_register ({ frames := 1, cells := 0, slots := 0, locals := 21 }) D (tyI cA) (wSC h cA) ([.ref (h 0), .int a1] : List Value) u (F, u) := by
  refine my_in (gw := GW) (cc := nc_S_register) (maxL := 2) (ret := (some .int)) (Qc := fun A => QI vwCl D (tyI cA) (wSC h cA) (F, u) A) (by decide) rfl (Nat.le_of_ble_eq_true rfl) ?_
  intro p e s m below meth c A H locs ls hx hb hml hr hts hown hlocks hK hN hA hP hD hS hl
  have hown : s.vm.findClass nR_S = some m.cls := hown
  have hl : lv_has ls 2 [(0, .ref (h 0)), (1, .int a1)] := hl
  have J10 : ∀ (H : Heap) (locs : List Loc) (ls : Array Slot), va_P D vwCl (wSC h cA u) H → va_D A (wSC h cA u) → va_S A s.heap H locs → lv_has ls 2 [] → f_S_register_b10 u = some F →
      W p l e (headSpec nw_S_register ({ frames := 1, cells := 0, slots := 0, locals := 21 })).room s m ([.ref (h 0), .int a1] : List Value).toArray below meth c H locs 0 0 (MQ below (QI vwCl D (tyI cA) (wSC h cA) (F, u) A) ([.ref (h 0), .int a1] : List Value).toArray s 0 0 A) (F0 m 10 ls []) := by
    intro H locs ls hP hD hS hl hw
    unfold f_S_register_b10 at hw
    cases hw
  unfold f_S_register at hw
  refine lv_iload_n hx hb nd_S_register_0 rfl (lv_at hl 1 rfl) ?_
  refine lv_if_lt (tgt := 10) hx hb nd_S_register_1 (by decide) (fun h1 => ?_) (fun h1 => ?_)
  · have hw := (if_pos h1).symm.trans hw
    exact J10 H locs ls hP hD hS (lv_sub hl [] rfl) hw
  have hw := (if_neg h1).symm.trans hw
  refine lv_iload_n hx hb nd_S_register_4 rfl (lv_at hl 1 rfl) ?_
  refine lv_bipush (v := (34 : Int32)) hx hb nd_S_register_5 (by decide) ?_
  refine lv_icmp_lt (tgt := 18) hx hb nd_S_register_7 (by decide) (fun h7 => ?_) (fun h7 => ?_)
  · have hw := (if_pos h7).symm.trans hw
    refine lv_aload_n hx hb nd_S_register_18 rfl (lv_at hl 0 rfl) ?_
    refine va_get (D := D) (ci := 0) (v := .ref (h 3)) (C := nR_S) (T := nT_S) (N := 9) hx hb hts nu_S hown hK hP 0 rfl rfl 1 (by decide) (hts _ gw_64) (fun _ h9 => h9) rfl nd_S_register_19 ?_
    refine lv_iload_n hx hb nd_S_register_22 rfl (lv_at hl 1 rfl) ?_
    refine my_ci (wd := wSC h cA) (r := f_R_valueOf a1 u) (u' := u) (va_runVN (As := [.int a1]) (rest := []) ⟨hx, hb, hml, hown, hts⟩ (c_R_valueOf l D h cA u a1 _ rfl _) ⟨va_cnB 1 hts (gw_in gw_206) rfl rfl rfl (hN _ nm_26) (hts _ gw_3) nh_R_valueOf ⟨Nat.le_of_ble_eq_true rfl, Nat.le_of_ble_eq_true rfl⟩, (hts _ gw_205), (hts _ gw_204)⟩ (my_preV nwOk hP hK hD hN (va_recv hK hP (ci := 2) (q0 := 3) rfl rfl)) rfl rfl hl.1 rfl (lv_room (Nat.le_of_ble_eq_true rfl)) nd_S_register_23 ⟨Nat.le_of_ble_eq_true rfl, Nat.le_of_ble_eq_true rfl⟩) hD hS hA (fun H locs hP hD hS => ?_)
    exact my_ri (u' := u) (v := f_R_valueOf a1 u) hx hb hr hlocks hK hP hD hS (congrArg (fun z9 => (z9, u)) (Option.some.inj hw)) nd_S_register_26
  have hw := (if_neg h7).symm.trans hw
  exact J10 H locs ls hP hD hS (lv_sub hl [] rfl) hw
set_option maxHeartbeats 4000000 in
set_option maxRecDepth 100000 in
theorem c_S_lines (l : Launch) (D : va_G) (h : Nat → Nat) (cA : Nat → ClassId) (u : St) (a1 : Int32) (F : Int32 × St) (hw : f_S_lines a1 u = some F) : MI nwS vwCl l ny_S_lines nw_S_lines ({ frames := 0, cells := 0, slots := 0, locals := 0 }) D (tyI cA) (wSC h cA) ([.ref (h 0), .int a1] : List Value) u F := by
  refine my_in (gw := GW) (cc := nc_S_lines) (maxL := 3) (ret := (some .int)) (Qc := fun A => QI vwCl D (tyI cA) (wSC h cA) F A) (by decide) rfl (Nat.le_of_ble_eq_true rfl) ?_
  intro p e s m below meth c A H locs ls hx hb hml hr hts hown hlocks hK hN hA hP hD hS hl
  have hown : s.vm.findClass nR_S = some m.cls := hown
  have hl : lv_has ls 3 [(0, .ref (h 0)), (1, .int a1)] := hl
  have J10 : ∀ (u : St) (H : Heap) (locs : List Loc) (ls : Array Slot), va_P D vwCl (wSC h cA u) H → va_D A (wSC h cA u) → va_S A s.heap H locs → lv_has ls 3 [] → f_S_lines_b10 u = some F →
      W p l e (headSpec nw_S_lines ({ frames := 0, cells := 0, slots := 0, locals := 0 })).room s m ([.ref (h 0), .int a1] : List Value).toArray below meth c H locs 0 0 (MQ below (QI vwCl D (tyI cA) (wSC h cA) F A) ([.ref (h 0), .int a1] : List Value).toArray s 0 0 A) (F0 m 10 ls []) := by
    intro u H locs ls hP hD hS hl hw
    unfold f_S_lines_b10 at hw
    cases hw
  unfold f_S_lines at hw
  refine lv_iload_n hx hb nd_S_lines_0 rfl (lv_at hl 1 rfl) ?_
  refine lv_if_lt (tgt := 10) hx hb nd_S_lines_1 (by decide) (fun h1 => ?_) (fun h1 => ?_)
  · have hw := (if_pos h1).symm.trans hw
    exact J10 u H locs ls hP hD hS (lv_sub hl [] rfl) hw
  have hw := (if_neg h1).symm.trans hw
  refine lv_iload_n hx hb nd_S_lines_4 rfl (lv_at hl 1 rfl) ?_
  refine lv_bipush (v := (63 : Int32)) hx hb nd_S_lines_5 (by decide) ?_
  refine lv_icmp_le (tgt := 18) hx hb nd_S_lines_7 (by decide) (fun h7 => ?_) (fun h7 => ?_)
  · have hw := (if_pos h7).symm.trans hw
    refine lv_aload_n hx hb nd_S_lines_18 rfl (lv_at hl 0 rfl) ?_
    refine va_get (D := D) (ci := 0) (v := .ref (h 5)) (C := nR_S) (T := nT_S) (N := 9) hx hb hts nu_S hown hK hP 0 rfl rfl 2 (by decide) (hts _ gw_65) (fun _ h9 => h9) rfl nd_S_lines_19 ?_
    refine va_getN (D := D) (ci := 3) (v := .int (u 5 2)) (C := nR_C) (T := nT_C) (N := 5) hx hb hts nu_C hown hK hP 5 rfl rfl 2 (by decide) (va_Nw.use rfl (hN _ nm_6)) (fun _ h9 => h9) rfl nd_S_lines_22 ?_
    refine lv_istore_n (lv' := [(2, .int (u 5 2)), (0, .ref (h 0)), (1, .int a1)]) hx hb nd_S_lines_25 rfl hl (by decide) rfl (fun ls hl => ?_)
    refine lv_aload_n hx hb nd_S_lines_26 rfl (lv_at hl 1 rfl) ?_
    refine va_get (D := D) (ci := 0) (v := .ref (h 5)) (C := nR_S) (T := nT_S) (N := 9) hx hb hts nu_S hown hK hP 0 rfl rfl 2 (by decide) (hts _ gw_65) (fun _ h9 => h9) rfl nd_S_lines_27 ?_
    refine lv_iload_n hx hb nd_S_lines_30 rfl (lv_at hl 2 rfl) ?_
    refine va_putN (D := D) (ci := 3) (v := .int a1) (ty := .int) (C := nR_C) (T := nT_C) (N := 5) hx hb hts nu_C nt_C nto_C nn_C hown hK hP hD hS 5 rfl rfl 2 (by decide) (va_Nw.use rfl (hN _ nm_6)) (fun _ h9 => h9) rfl (by decide +kernel) rfl rfl (Nat.le_of_ble_eq_true rfl) nd_S_lines_31 (fun H locs hP hD hS => ?_)
    have hP : va_P D vwCl (wSC h cA (sU u 5 2 a1)) H := hP
    have hD : va_D A (wSC h cA (sU u 5 2 a1)) := hD
    refine lv_iload_n hx hb nd_S_lines_34 rfl (lv_at hl 0 rfl) ?_
    exact my_ri (u' := sU u 5 2 a1) (v := u 5 2) hx hb hr hlocks hK hP hD hS (Option.some.inj hw) nd_S_lines_35
  have hw := (if_neg h7).symm.trans hw
  exact J10 u H locs ls hP hD hS (lv_sub hl [] rfl) hw
set_option maxHeartbeats 4000000 in
set_option maxRecDepth 100000 in
theorem c_S_run (l : Launch) (D : va_G) (h : Nat → Nat) (cA : Nat → ClassId) (u : St) (a1 : Int32) (F : Int32 × St) (hw : f_S_run a1 u = some (some F)) : MI nwS vwCl l ny_S_run nw_S_run ({ frames := 6, cells := 0, slots := 0, locals := 134 }) D (tyI cA) (wSC h cA) ([.ref (h 0), .int a1] : List Value) u F := by
  refine my_in (gw := GW) (cc := nc_S_run) (maxL := 4) (ret := (some .int)) (Qc := fun A => QI vwCl D (tyI cA) (wSC h cA) F A) (by decide) rfl (Nat.le_of_ble_eq_true rfl) ?_
  intro p e s m below meth c A H locs ls hx hb hml hr hts hown hlocks hK hN hA hP hD hS hl
  have hown : s.vm.findClass nR_S = some m.cls := hown
  have hl : lv_has ls 4 [(0, .ref (h 0)), (1, .int a1)] := hl
  have J11 : ∀ (u : St) (H : Heap) (locs : List Loc) (ls : Array Slot), va_P D vwCl (wSC h cA u) H → va_D A (wSC h cA u) → va_S A s.heap H locs → lv_has ls 4 [] → f_S_run_b11 u = some (some F) →
      W p l e (headSpec nw_S_run ({ frames := 6, cells := 0, slots := 0, locals := 134 })).room s m ([.ref (h 0), .int a1] : List Value).toArray below meth c H locs 0 0 (MQ below (QI vwCl D (tyI cA) (wSC h cA) F A) ([.ref (h 0), .int a1] : List Value).toArray s 0 0 A) (F0 m 11 ls []) := by
    intro u H locs ls hP hD hS hl hw
    unfold f_S_run_b11 at hw
    cases hw
  have J26 : ∀ (n : Nat) (x1 : Int32) (x2 : Int32) (x3 : Int32) (u : St) (H : Heap) (locs : List Loc) (ls : Array Slot), va_P D vwCl (wSC h cA u) H → va_D A (wSC h cA u) → va_S A s.heap H locs → lv_has ls 4 [(0, .ref (h 0)), (1, .int x1), (2, .int x2), (3, .int x3)] → f_S_run_b26 n x1 x2 x3 u = some (some F) →
      W p l e (headSpec nw_S_run ({ frames := 6, cells := 0, slots := 0, locals := 134 })).room s m ([.ref (h 0), .int a1] : List Value).toArray below meth c H locs 0 0 (MQ below (QI vwCl D (tyI cA) (wSC h cA) F A) ([.ref (h 0), .int a1] : List Value).toArray s 0 0 A) (F0 m 26 ls []) := by
    intro n
    induction n with
    | zero =>
      intro x1 x2 x3 u H locs ls hP hD hS hl hw
      have hw : none = some (some F) := hw
      cases hw
    | succ n ih =>
      intro x1 x2 x3 u H locs ls hP hD hS hl hw
      have hw := (f_S_run_b26_s n x1 x2 x3 u).symm.trans hw
      refine lv_iload_n hx hb nd_S_run_26 rfl (lv_at hl 3 rfl) ?_
      refine lv_iload_n hx hb nd_S_run_27 rfl (lv_at hl 1 rfl) ?_
      refine lv_icmp_ge (tgt := 42) hx hb nd_S_run_28 (by decide) (fun h28 => ?_) (fun h28 => ?_)
      · have hw := (if_pos h28).symm.trans hw
        refine lv_aload_n hx hb nd_S_run_42 rfl (lv_at hl 0 rfl) ?_
        refine va_get (D := D) (ci := 0) (v := .int (u 0 8)) (C := nR_S) (T := nT_S) (N := 9) hx hb hts nu_S hown hK hP 0 rfl rfl 8 (by decide) (hts _ gw_71) (fun _ h9 => h9) rfl nd_S_run_43 ?_
        refine lv_iload_n hx hb nd_S_run_46 rfl (lv_at hl 2 rfl) ?_
        refine lv_isub hx hb nd_S_run_47 ?_
        exact my_ri (u' := u) (v := (u 0 8) - x2) hx hb hr hlocks hK hP hD hS (Option.some.inj (Option.some.inj hw)) nd_S_run_48
      have hw := (if_neg h28).symm.trans hw
      refine lv_aload_n hx hb nd_S_run_31 rfl (lv_at hl 0 rfl) ?_
      obtain ⟨r32, u32, hq32, hw⟩ := bnd_i hw
      refine my_ci (wd := wSC h cA) (r := r32) (u' := u32) (va_runV (As := []) (rest := []) ⟨hx, hb, hml, hown, hts⟩ (c_S_takeStep l D h cA u (r32, u32) hq32 _) ⟨callB_of 0 hts (gw_in gw_124) rfl rfl rfl (hts _ gw_1) (hts _ gw_121) nh_S_takeStep ⟨Nat.le_of_ble_eq_true rfl, Nat.le_of_ble_eq_true rfl⟩, (hts _ gw_123), (hts _ gw_122)⟩ (my_preV nwOk hP hK hD hN (va_recv hK hP (ci := 0) (q0 := 0) rfl rfl)) rfl rfl hl.1 rfl (lv_room (Nat.le_of_ble_eq_true rfl)) nd_S_run_32 ⟨Nat.le_of_ble_eq_true rfl, Nat.le_of_ble_eq_true rfl⟩) hD hS hA (fun H locs hP hD hS => ?_)
      refine lv_pop hx hb nd_S_run_35 rfl ?_
      refine lv_iinc (k := 3) (v := x3 + (1 : Int32)) (lv' := [(3, .int (x3 + (1 : Int32))), (0, .ref (h 0)), (1, .int x1), (2, .int x2)]) hx hb nd_S_run_36 hl rfl rfl (by decide) rfl (fun ls hl => ?_)
      refine lv_goto (tgt := 26) hx hb nd_S_run_39 (by decide) ?_
      exact ih x1 x2 (x3 + (1 : Int32)) u32 H locs ls hP hD hS (lv_sub hl [1, 2, 3, 0] rfl) hw
  unfold f_S_run at hw
  refine lv_iload_n hx hb nd_S_run_0 rfl (lv_at hl 1 rfl) ?_
  refine lv_if_lt (tgt := 11) hx hb nd_S_run_1 (by decide) (fun h1 => ?_) (fun h1 => ?_)
  · have hw := (if_pos h1).symm.trans hw
    exact J11 u H locs ls hP hD hS (lv_sub hl [] rfl) hw
  have hw := (if_neg h1).symm.trans hw
  refine lv_iload_n hx hb nd_S_run_4 rfl (lv_at hl 1 rfl) ?_
  refine lv_sipush (v := (5000 : Int32)) hx hb nd_S_run_5 (by decide) ?_
  refine lv_icmp_le (tgt := 19) hx hb nd_S_run_8 (by decide) (fun h8 => ?_) (fun h8 => ?_)
  · have hw := (if_pos h8).symm.trans hw
    refine lv_aload_n hx hb nd_S_run_19 rfl (lv_at hl 0 rfl) ?_
    refine va_get (D := D) (ci := 0) (v := .int (u 0 8)) (C := nR_S) (T := nT_S) (N := 9) hx hb hts nu_S hown hK hP 0 rfl rfl 8 (by decide) (hts _ gw_71) (fun _ h9 => h9) rfl nd_S_run_20 ?_
    refine lv_istore_n (lv' := [(2, .int (u 0 8)), (0, .ref (h 0)), (1, .int a1)]) hx hb nd_S_run_23 rfl hl (by decide) rfl (fun ls hl => ?_)
    refine lv_iconst (v := (0 : Int32)) hx hb nd_S_run_24 (by decide) ?_
    refine lv_istore_n (lv' := [(3, .int (0 : Int32)), (2, .int (u 0 8)), (0, .ref (h 0)), (1, .int a1)]) hx hb nd_S_run_25 rfl hl (by decide) rfl (fun ls hl => ?_)
    exact J26 fuel a1 (u 0 8) (0 : Int32) u H locs ls hP hD hS (lv_sub hl [2, 3, 1, 0] rfl) hw
  have hw := (if_neg h8).symm.trans hw
  exact J11 u H locs ls hP hD hS (lv_sub hl [] rfl) hw
set_option maxHeartbeats 4000000 in
set_option maxRecDepth 100000 in
theorem c_S_look (l : Launch) (D : va_G) (h : Nat → Nat) (cA : Nat → ClassId) (u : St) (a1 : Int32) (F : Int32) (hw : f_S_look a1 u = some F) : MI nwS vwCl l ny_S_look nw_S_look ({ frames := 1, cells := 0, slots := 0, locals := 20 }) D (tyI cA) (wSC h cA) ([.ref (h 0), .int a1] : List Value) u (F, u) := by
  refine my_in (gw := GW) (cc := nc_S_look) (maxL := 2) (ret := (some .int)) (Qc := fun A => QI vwCl D (tyI cA) (wSC h cA) (F, u) A) (by decide) rfl (Nat.le_of_ble_eq_true rfl) ?_
  intro p e s m below meth c A H locs ls hx hb hml hr hts hown hlocks hK hN hA hP hD hS hl
  have hown : s.vm.findClass nR_S = some m.cls := hown
  have hl : lv_has ls 2 [(0, .ref (h 0)), (1, .int a1)] := hl
  unfold f_S_look at hw
  refine lv_iload_n hx hb nd_S_look_0 rfl (lv_at hl 1 rfl) ?_
  rcases my_em (x := a1) (0 : Int32) with h1_0 | h1_0
  · have hw := (if_pos h1_0).symm.trans hw
    refine my_swi (tgt := 60) hx hb nd_S_look_1 h1_0 (by decide) (by decide) rfl (by decide) ?_
    refine lv_aload_n hx hb nd_S_look_60 rfl (lv_at hl 0 rfl) ?_
    refine va_get (D := D) (ci := 0) (v := .int (u 0 4)) (C := nR_S) (T := nT_S) (N := 9) hx hb hts nu_S hown hK hP 0 rfl rfl 4 (by decide) (hts _ gw_67) (fun _ h9 => h9) rfl nd_S_look_61 ?_
    exact my_ri (u' := u) (v := u 0 4) hx hb hr hlocks hK hP hD hS (congrArg (fun z9 => (z9, u)) (Option.some.inj hw)) nd_S_look_64
  have hw := (if_neg h1_0).symm.trans hw
  rcases my_em (x := a1) (1 : Int32) with h1_1 | h1_1
  · have hw := (if_pos h1_1).symm.trans hw
    refine my_swi (tgt := 65) hx hb nd_S_look_1 h1_1 (by decide) (by decide) rfl (by decide) ?_
    refine lv_aload_n hx hb nd_S_look_65 rfl (lv_at hl 0 rfl) ?_
    refine va_get (D := D) (ci := 0) (v := .int (u 0 5)) (C := nR_S) (T := nT_S) (N := 9) hx hb hts nu_S hown hK hP 0 rfl rfl 5 (by decide) (hts _ gw_68) (fun _ h9 => h9) rfl nd_S_look_66 ?_
    exact my_ri (u' := u) (v := u 0 5) hx hb hr hlocks hK hP hD hS (congrArg (fun z9 => (z9, u)) (Option.some.inj hw)) nd_S_look_69
  have hw := (if_neg h1_1).symm.trans hw
  rcases my_em (x := a1) (2 : Int32) with h1_2 | h1_2
  · have hw := (if_pos h1_2).symm.trans hw
    refine my_swi (tgt := 70) hx hb nd_S_look_1 h1_2 (by decide) (by decide) rfl (by decide) ?_
    refine lv_aload_n hx hb nd_S_look_70 rfl (lv_at hl 0 rfl) ?_
    refine va_get (D := D) (ci := 0) (v := .ref (h 5)) (C := nR_S) (T := nT_S) (N := 9) hx hb hts nu_S hown hK hP 0 rfl rfl 2 (by decide) (hts _ gw_65) (fun _ h9 => h9) rfl nd_S_look_71 ?_
    refine va_getN (D := D) (ci := 3) (v := .int (u 5 0)) (C := nR_C) (T := nT_C) (N := 5) hx hb hts nu_C hown hK hP 5 rfl rfl 0 (by decide) (va_Nw.use rfl (hN _ nm_5)) (fun _ h9 => h9) rfl nd_S_look_74 ?_
    exact my_ri (u' := u) (v := u 5 0) hx hb hr hlocks hK hP hD hS (congrArg (fun z9 => (z9, u)) (Option.some.inj hw)) nd_S_look_77
  have hw := (if_neg h1_2).symm.trans hw
  rcases my_em (x := a1) (3 : Int32) with h1_3 | h1_3
  · have hw := (if_pos h1_3).symm.trans hw
    refine my_swi (tgt := 78) hx hb nd_S_look_1 h1_3 (by decide) (by decide) rfl (by decide) ?_
    refine lv_aload_n hx hb nd_S_look_78 rfl (lv_at hl 0 rfl) ?_
    refine va_get (D := D) (ci := 0) (v := .ref (h 5)) (C := nR_S) (T := nT_S) (N := 9) hx hb hts nu_S hown hK hP 0 rfl rfl 2 (by decide) (hts _ gw_65) (fun _ h9 => h9) rfl nd_S_look_79 ?_
    refine my_ci (wd := wSC h cA) (r := f_C_wholeCause u) (u' := u) (va_runVN (As := []) (rest := []) ⟨hx, hb, hml, hown, hts⟩ (c_C_wholeCause l D h cA u _ rfl _) ⟨va_cnB 0 hts (gw_in gw_131) rfl rfl rfl (hN _ nm_34) (hts _ gw_4) nh_C_wholeCause ⟨Nat.le_of_ble_eq_true rfl, Nat.le_of_ble_eq_true rfl⟩, (hts _ gw_130), (hts _ gw_129)⟩ (my_preV nwOk hP hK hD hN (va_recv hK hP (ci := 3) (q0 := 5) rfl rfl)) rfl rfl hl.1 rfl (lv_room (Nat.le_of_ble_eq_true rfl)) nd_S_look_82 ⟨Nat.le_of_ble_eq_true rfl, Nat.le_of_ble_eq_true rfl⟩) hD hS hA (fun H locs hP hD hS => ?_)
    exact my_ri (u' := u) (v := f_C_wholeCause u) hx hb hr hlocks hK hP hD hS (congrArg (fun z9 => (z9, u)) (Option.some.inj hw)) nd_S_look_85
  have hw := (if_neg h1_3).symm.trans hw
  rcases my_em (x := a1) (4 : Int32) with h1_4 | h1_4
  · have hw := (if_pos h1_4).symm.trans hw
    refine my_swi (tgt := 86) hx hb nd_S_look_1 h1_4 (by decide) (by decide) rfl (by decide) ?_
    refine lv_aload_n hx hb nd_S_look_86 rfl (lv_at hl 0 rfl) ?_
    refine va_get (D := D) (ci := 0) (v := .ref (h 5)) (C := nR_S) (T := nT_S) (N := 9) hx hb hts nu_S hown hK hP 0 rfl rfl 2 (by decide) (hts _ gw_65) (fun _ h9 => h9) rfl nd_S_look_87 ?_
    refine va_getN (D := D) (ci := 3) (v := .int (u 5 3)) (C := nR_C) (T := nT_C) (N := 5) hx hb hts nu_C hown hK hP 5 rfl rfl 3 (by decide) (va_Nw.use rfl (hN _ nm_7)) (fun _ h9 => h9) rfl nd_S_look_90 ?_
    exact my_ri (u' := u) (v := u 5 3) hx hb hr hlocks hK hP hD hS (congrArg (fun z9 => (z9, u)) (Option.some.inj hw)) nd_S_look_93
  have hw := (if_neg h1_4).symm.trans hw
  rcases my_em (x := a1) (5 : Int32) with h1_5 | h1_5
  · have hw := (if_pos h1_5).symm.trans hw
    refine my_swi (tgt := 94) hx hb nd_S_look_1 h1_5 (by decide) (by decide) rfl (by decide) ?_
    refine lv_aload_n hx hb nd_S_look_94 rfl (lv_at hl 0 rfl) ?_
    refine va_get (D := D) (ci := 0) (v := .ref (h 5)) (C := nR_S) (T := nT_S) (N := 9) hx hb hts nu_S hown hK hP 0 rfl rfl 2 (by decide) (hts _ gw_65) (fun _ h9 => h9) rfl nd_S_look_95 ?_
    refine va_getN (D := D) (ci := 3) (v := .int (u 5 4)) (C := nR_C) (T := nT_C) (N := 5) hx hb hts nu_C hown hK hP 5 rfl rfl 4 (by decide) (va_Nw.use rfl (hN _ nm_8)) (fun _ h9 => h9) rfl nd_S_look_98 ?_
    exact my_ri (u' := u) (v := u 5 4) hx hb hr hlocks hK hP hD hS (congrArg (fun z9 => (z9, u)) (Option.some.inj hw)) nd_S_look_101
  have hw := (if_neg h1_5).symm.trans hw
  rcases my_em (x := a1) (6 : Int32) with h1_6 | h1_6
  · have hw := (if_pos h1_6).symm.trans hw
    refine my_swi (tgt := 102) hx hb nd_S_look_1 h1_6 (by decide) (by decide) rfl (by decide) ?_
    refine lv_aload_n hx hb nd_S_look_102 rfl (lv_at hl 0 rfl) ?_
    refine va_get (D := D) (ci := 0) (v := .int (zb (u 0 6))) (C := nR_S) (T := nT_S) (N := 9) hx hb hts nu_S hown hK hP 0 rfl rfl 6 (by decide) (hts _ gw_69) (fun _ h9 => h9) rfl nd_S_look_103 ?_
    refine lv_if_eq (tgt := 113) hx hb nd_S_look_106 (by decide) (fun h106 => ?_) (fun h106 => ?_)
    · have hw := (if_pos h106).symm.trans hw
      refine lv_iconst (v := (0 : Int32)) hx hb nd_S_look_113 (by decide) ?_
      exact my_ri (u' := u) (v := (0 : Int32)) hx hb hr hlocks hK hP hD hS (congrArg (fun z9 => (z9, u)) (Option.some.inj hw)) nd_S_look_114
    have hw := (if_neg h106).symm.trans hw
    refine lv_iconst (v := (1 : Int32)) hx hb nd_S_look_109 (by decide) ?_
    refine lv_goto (tgt := 114) hx hb nd_S_look_110 (by decide) ?_
    exact my_ri (u' := u) (v := (1 : Int32)) hx hb hr hlocks hK hP hD hS (congrArg (fun z9 => (z9, u)) (Option.some.inj hw)) nd_S_look_114
  have hw := (if_neg h1_6).symm.trans hw
  rcases my_em (x := a1) (7 : Int32) with h1_7 | h1_7
  · have hw := (if_pos h1_7).symm.trans hw
    refine my_swi (tgt := 115) hx hb nd_S_look_1 h1_7 (by decide) (by decide) rfl (by decide) ?_
    refine lv_aload_n hx hb nd_S_look_115 rfl (lv_at hl 0 rfl) ?_
    refine va_get (D := D) (ci := 0) (v := .ref (h 3)) (C := nR_S) (T := nT_S) (N := 9) hx hb hts nu_S hown hK hP 0 rfl rfl 1 (by decide) (hts _ gw_64) (fun _ h9 => h9) rfl nd_S_look_116 ?_
    refine va_getN (D := D) (ci := 2) (v := .int (u 3 1)) (C := nR_R) (T := nT_R) (N := 3) hx hb hts nu_R hown hK hP 3 rfl rfl 1 (by decide) (va_Nw.use rfl (hN _ nm_2)) (fun _ h9 => h9) rfl nd_S_look_119 ?_
    exact my_ri (u' := u) (v := u 3 1) hx hb hr hlocks hK hP hD hS (congrArg (fun z9 => (z9, u)) (Option.some.inj hw)) nd_S_look_122
  have hw := (if_neg h1_7).symm.trans hw
  rcases my_em (x := a1) (8 : Int32) with h1_8 | h1_8
  · have hw := (if_pos h1_8).symm.trans hw
    refine my_swi (tgt := 123) hx hb nd_S_look_1 h1_8 (by decide) (by decide) rfl (by decide) ?_
    refine lv_aload_n hx hb nd_S_look_123 rfl (lv_at hl 0 rfl) ?_
    refine va_get (D := D) (ci := 0) (v := .ref (h 3)) (C := nR_S) (T := nT_S) (N := 9) hx hb hts nu_S hown hK hP 0 rfl rfl 1 (by decide) (hts _ gw_64) (fun _ h9 => h9) rfl nd_S_look_124 ?_
    refine va_getN (D := D) (ci := 2) (v := .int (u 3 2)) (C := nR_R) (T := nT_R) (N := 3) hx hb hts nu_R hown hK hP 3 rfl rfl 2 (by decide) (va_Nw.use rfl (hN _ nm_3)) (fun _ h9 => h9) rfl nd_S_look_127 ?_
    exact my_ri (u' := u) (v := u 3 2) hx hb hr hlocks hK hP hD hS (congrArg (fun z9 => (z9, u)) (Option.some.inj hw)) nd_S_look_130
  have hw := (if_neg h1_8).symm.trans hw
  rcases my_em (x := a1) (9 : Int32) with h1_9 | h1_9
  · have hw := (if_pos h1_9).symm.trans hw
    refine my_swi (tgt := 131) hx hb nd_S_look_1 h1_9 (by decide) (by decide) rfl (by decide) ?_
    refine lv_aload_n hx hb nd_S_look_131 rfl (lv_at hl 0 rfl) ?_
    refine va_get (D := D) (ci := 0) (v := .int (u 0 7)) (C := nR_S) (T := nT_S) (N := 9) hx hb hts nu_S hown hK hP 0 rfl rfl 7 (by decide) (hts _ gw_70) (fun _ h9 => h9) rfl nd_S_look_132 ?_
    exact my_ri (u' := u) (v := u 0 7) hx hb hr hlocks hK hP hD hS (congrArg (fun z9 => (z9, u)) (Option.some.inj hw)) nd_S_look_135
  have hw := (if_neg h1_9).symm.trans hw
  rcases my_em (x := a1) (10 : Int32) with h1_10 | h1_10
  · have hw := (if_pos h1_10).symm.trans hw
    refine my_swi (tgt := 136) hx hb nd_S_look_1 h1_10 (by decide) (by decide) rfl (by decide) ?_
    refine lv_aload_n hx hb nd_S_look_136 rfl (lv_at hl 0 rfl) ?_
    refine va_get (D := D) (ci := 0) (v := .int (u 0 8)) (C := nR_S) (T := nT_S) (N := 9) hx hb hts nu_S hown hK hP 0 rfl rfl 8 (by decide) (hts _ gw_71) (fun _ h9 => h9) rfl nd_S_look_137 ?_
    exact my_ri (u' := u) (v := u 0 8) hx hb hr hlocks hK hP hD hS (congrArg (fun z9 => (z9, u)) (Option.some.inj hw)) nd_S_look_140
  have hw := (if_neg h1_10).symm.trans hw
  refine my_swd (tgt := 141) hx hb nd_S_look_1 (my_nec h1_0 (my_nec h1_1 (my_nec h1_2 (my_nec h1_3 (my_nec h1_4 (my_nec h1_5 (my_nec h1_6 (my_nec h1_7 (my_nec h1_8 (my_nec h1_9 (my_nec h1_10 my_nen))))))))))) (by decide +kernel) (by decide) ?_
  cases hw
