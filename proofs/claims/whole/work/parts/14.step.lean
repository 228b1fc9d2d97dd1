set_option maxHeartbeats 4000000 in
set_option maxRecDepth 100000 in
theorem c_S_enterException (l : Launch) (D : va_G) (h : Nat → Nat) (cA : Nat → ClassId) (u : St) (a1 : Int32) (F : St) (hw : f_S_enterException a1 u = F) : MV nwS vwCl l ny_S_enterException nw_S_enterException ({ frames := 3, cells := 0, slots := 0, locals := 62 }) D (tyI cA) (wSC h cA) ([.ref (h 0), .int a1] : List Value) u F := by
  refine my_in (gw := GW) (cc := nc_S_enterException) (maxL := 2) (ret := none) (Qc := fun A => QV vwCl D (tyI cA) (wSC h cA) F A) (by decide) rfl (Nat.le_of_ble_eq_true rfl) ?_
  intro p e s m below meth c A H locs ls hx hb hml hr hts hown hlocks hK hN hA hP hD hS hl
  have hown : s.vm.findClass nR_S = some m.cls := hown
  have hl : lv_has ls 2 [(0, .ref (h 0)), (1, .int a1)] := hl
  have J42 : ∀ (y0 : Int32) (y1 : Int32) (u : St) (H : Heap) (locs : List Loc) (ls : Array Slot), va_P D vwCl (wSC h cA u) H → va_D A (wSC h cA u) → va_S A s.heap H locs → lv_has ls 2 [(0, .ref (h 0))] → f_S_enterException_b42 y0 y1 u = F →
      W p l e (headSpec nw_S_enterException ({ frames := 3, cells := 0, slots := 0, locals := 62 })).room s m ([.ref (h 0), .int a1] : List Value).toArray below meth c H locs 0 0 (MQ below (QV vwCl D (tyI cA) (wSC h cA) F A) ([.ref (h 0), .int a1] : List Value).toArray s 0 0 A) (F0 m 42 ls [.int y0, .int y1, .ref (h 5)]) := by
    intro y0 y1 u H locs ls hP hD hS hl hw
    unfold f_S_enterException_b42 at hw
    refine lv_aload_n hx hb nd_S_enterException_42 rfl (lv_at hl 0 rfl) ?_
    refine va_get (D := D) (ci := 0) (v := .int (zb (u 0 6))) (C := nR_S) (T := nT_S) (N := 9) hx hb hts nu_S hown hK hP 0 rfl rfl 6 (by decide) (hts _ gw_69) (fun _ h9 => h9) rfl nd_S_enterException_43 ?_
    obtain ⟨u46, hq46, hw⟩ := bnv_i hw
    refine my_cv (wd := wSC h cA) (F := u46) (va_runVN (As := [.int y1, .int y0, .int (zb (u 0 6))]) (rest := []) ⟨hx, hb, hml, hown, hts⟩ (c_C_enter l D h cA u y1 y0 (u 0 6) u46 hq46 _) ⟨va_cnB 3 hts (gw_in gw_146) rfl rfl rfl (hN _ nm_22) (hts _ gw_4) nh_C_enter ⟨Nat.le_of_ble_eq_true rfl, Nat.le_of_ble_eq_true rfl⟩, (hts _ gw_145), (hts _ gw_144)⟩ (my_preV nwOk hP hK hD hN (va_recv hK hP (ci := 3) (q0 := 5) rfl rfl)) rfl rfl hl.1 rfl (lv_room (Nat.le_of_ble_eq_true rfl)) nd_S_enterException_46 ⟨Nat.le_of_ble_eq_true rfl, Nat.le_of_ble_eq_true rfl⟩) hD hS hA (fun H locs hP hD hS => ?_)
    refine lv_aload_n hx hb nd_S_enterException_49 rfl (lv_at hl 0 rfl) ?_
    refine lv_ldc (own := nR_S) (v := (-2147483520 : Int32)) hx hb hown (hts _ gw_148) nd_S_enterException_50 ?_
    obtain ⟨u52, hq52, hw⟩ := bnv_i hw
    refine my_cv (wd := wSC h cA) (F := u52) (va_runV (As := [.int (-2147483520 : Int32)]) (rest := []) ⟨hx, hb, hml, hown, hts⟩ (c_S_continueAt l D h cA u46 (-2147483520 : Int32) u52 hq52 _) ⟨callB_of 1 hts (gw_in gw_102) rfl rfl rfl (hts _ gw_1) (hts _ gw_99) nh_S_continueAt ⟨Nat.le_of_ble_eq_true rfl, Nat.le_of_ble_eq_true rfl⟩, (hts _ gw_101), (hts _ gw_100)⟩ (my_preV nwOk hP hK hD hN (va_recv hK hP (ci := 0) (q0 := 0) rfl rfl)) rfl rfl hl.1 rfl (lv_room (Nat.le_of_ble_eq_true rfl)) nd_S_enterException_52 ⟨Nat.le_of_ble_eq_true rfl, Nat.le_of_ble_eq_true rfl⟩) hD hS hA (fun H locs hP hD hS => ?_)
    exact my_rv (u' := u52) hx hb hr hlocks hK hP hD hS hw nd_S_enterException_55
  unfold f_S_enterException at hw
  refine lv_aload_n hx hb nd_S_enterException_0 rfl (lv_at hl 0 rfl) ?_
  refine lv_dup hx hb nd_S_enterException_1 rfl ?_
  refine va_get (D := D) (ci := 0) (v := .int (u 0 8)) (C := nR_S) (T := nT_S) (N := 9) hx hb hts nu_S hown hK hP 0 rfl rfl 8 (by decide) (hts _ gw_71) (fun _ h9 => h9) rfl nd_S_enterException_2 ?_
  refine lv_iconst (v := (1 : Int32)) hx hb nd_S_enterException_5 (by decide) ?_
  refine lv_iadd hx hb nd_S_enterException_6 ?_
  refine va_put (D := D) (ci := 0) (v := .int ((u 0 8) + (1 : Int32))) (ty := .int) (C := nR_S) (T := nT_S) (N := 9) hx hb hts nu_S nt_S nto_S nn_S hown hK hP hD hS 0 rfl rfl 8 (by decide) (hts _ gw_71) (fun _ h9 => h9) rfl (by decide +kernel) rfl rfl (Nat.le_of_ble_eq_true rfl) nd_S_enterException_7 (fun H locs hP hD hS => ?_)
  have hP : va_P D vwCl (wSC h cA (sU u 0 8 ((u 0 8) + (1 : Int32)))) H := hP
  have hD : va_D A (wSC h cA (sU u 0 8 ((u 0 8) + (1 : Int32)))) := hD
  refine lv_aload_n hx hb nd_S_enterException_10 rfl (lv_at hl 0 rfl) ?_
  refine va_get (D := D) (ci := 0) (v := .ref (h 3)) (C := nR_S) (T := nT_S) (N := 9) hx hb hts nu_S hown hK hP 0 rfl rfl 1 (by decide) (hts _ gw_64) (fun _ h9 => h9) rfl nd_S_enterException_11 ?_
  obtain ⟨u14, hq14, hw⟩ := bnv_i hw
  refine my_cv (wd := wSC h cA) (F := u14) (va_runVN (As := []) (rest := []) ⟨hx, hb, hml, hown, hts⟩ (c_R_landLoad l D h cA (sU u 0 8 ((u 0 8) + (1 : Int32))) u14 hq14 _) ⟨va_cnB 0 hts (gw_in gw_139) rfl rfl rfl (hN _ nm_21) (hts _ gw_3) nh_R_landLoad ⟨Nat.le_of_ble_eq_true rfl, Nat.le_of_ble_eq_true rfl⟩, (hts _ gw_138), (hts _ gw_137)⟩ (my_preV nwOk hP hK hD hN (va_recv hK hP (ci := 2) (q0 := 3) rfl rfl)) rfl rfl hl.1 rfl (lv_room (Nat.le_of_ble_eq_true rfl)) nd_S_enterException_14 ⟨Nat.le_of_ble_eq_true rfl, Nat.le_of_ble_eq_true rfl⟩) hD hS hA (fun H locs hP hD hS => ?_)
  refine lv_aload_n hx hb nd_S_enterException_17 rfl (lv_at hl 0 rfl) ?_
  refine va_get (D := D) (ci := 0) (v := .ref (h 5)) (C := nR_S) (T := nT_S) (N := 9) hx hb hts nu_S hown hK hP 0 rfl rfl 2 (by decide) (hts _ gw_65) (fun _ h9 => h9) rfl nd_S_enterException_18 ?_
  refine lv_iload_n hx hb nd_S_enterException_21 rfl (lv_at hl 1 rfl) ?_
  refine lv_aload_n hx hb nd_S_enterException_22 rfl (lv_at hl 0 rfl) ?_
  refine va_get (D := D) (ci := 0) (v := .int (zb (u14 0 6))) (C := nR_S) (T := nT_S) (N := 9) hx hb hts nu_S hown hK hP 0 rfl rfl 6 (by decide) (hts _ gw_69) (fun _ h9 => h9) rfl nd_S_enterException_23 ?_
  refine lv_if_eq (tgt := 38) hx hb nd_S_enterException_26 (by decide) (fun h26 => ?_) (fun h26 => ?_)
  · have hw := (if_pos h26).symm.trans hw
    refine lv_aload_n hx hb nd_S_enterException_38 rfl (lv_at hl 0 rfl) ?_
    refine va_get (D := D) (ci := 0) (v := .int (u14 0 4)) (C := nR_S) (T := nT_S) (N := 9) hx hb hts nu_S hown hK hP 0 rfl rfl 4 (by decide) (hts _ gw_67) (fun _ h9 => h9) rfl nd_S_enterException_39 ?_
    exact J42 (u14 0 4) a1 u14 H locs ls hP hD hS (lv_sub hl [0] rfl) hw
  have hw := (if_neg h26).symm.trans hw
  refine lv_aload_n hx hb nd_S_enterException_29 rfl (lv_at hl 0 rfl) ?_
  refine va_get (D := D) (ci := 0) (v := .int (u14 0 4)) (C := nR_S) (T := nT_S) (N := 9) hx hb hts nu_S hown hK hP 0 rfl rfl 4 (by decide) (hts _ gw_67) (fun _ h9 => h9) rfl nd_S_enterException_30 ?_
  refine lv_iconst (v := (4 : Int32)) hx hb nd_S_enterException_33 (by decide) ?_
  refine lv_isub hx hb nd_S_enterException_34 ?_
  refine lv_goto (tgt := 42) hx hb nd_S_enterException_35 (by decide) ?_
  exact J42 ((u14 0 4) - (4 : Int32)) a1 u14 H locs ls hP hD hS (lv_sub hl [0] rfl) hw
set_option maxHeartbeats 4000000 in
set_option maxRecDepth 100000 in
theorem c_S_faultAtPc (l : Launch) (D : va_G) (h : Nat → Nat) (cA : Nat → ClassId) (u : St) (F : Int32 × St) (hw : f_S_faultAtPc u = F) : MI nwS vwCl l ny_S_faultAtPc nw_S_faultAtPc ({ frames := 2, cells := 0, slots := 0, locals := 41 }) D (tyI cA) (wSC h cA) ([.ref (h 0)] : List Value) u F := by
  refine my_in (gw := GW) (cc := nc_S_faultAtPc) (maxL := 1) (ret := (some .int)) (Qc := fun A => QI vwCl D (tyI cA) (wSC h cA) F A) (by decide) rfl (Nat.le_of_ble_eq_true rfl) ?_
  intro p e s m below meth c A H locs ls hx hb hml hr hts hown hlocks hK hN hA hP hD hS hl
  have hown : s.vm.findClass nR_S = some m.cls := hown
  have hl : lv_has ls 1 [(0, .ref (h 0))] := hl
  have J23 : ∀ (u : St) (H : Heap) (locs : List Loc) (ls : Array Slot), va_P D vwCl (wSC h cA u) H → va_D A (wSC h cA u) → va_S A s.heap H locs → lv_has ls 1 [(0, .ref (h 0))] → f_S_faultAtPc_b23 u = F →
      W p l e (headSpec nw_S_faultAtPc ({ frames := 2, cells := 0, slots := 0, locals := 41 })).room s m ([.ref (h 0)] : List Value).toArray below meth c H locs 0 0 (MQ below (QI vwCl D (tyI cA) (wSC h cA) F A) ([.ref (h 0)] : List Value).toArray s 0 0 A) (F0 m 23 ls []) := by
    intro u H locs ls hP hD hS hl hw
    unfold f_S_faultAtPc_b23 at hw
    refine lv_aload_n hx hb nd_S_faultAtPc_23 rfl (lv_at hl 0 rfl) ?_
    refine va_get (D := D) (ci := 0) (v := .ref (h 5)) (C := nR_S) (T := nT_S) (N := 9) hx hb hts nu_S hown hK hP 0 rfl rfl 2 (by decide) (hts _ gw_65) (fun _ h9 => h9) rfl nd_S_faultAtPc_24 ?_
    refine lv_aload_n hx hb nd_S_faultAtPc_27 rfl (lv_at hl 0 rfl) ?_
    refine va_get (D := D) (ci := 0) (v := .int (u 0 4)) (C := nR_S) (T := nT_S) (N := 9) hx hb hts nu_S hown hK hP 0 rfl rfl 4 (by decide) (hts _ gw_67) (fun _ h9 => h9) rfl nd_S_faultAtPc_28 ?_
    refine va_putN (D := D) (ci := 3) (v := .int (u 0 4)) (ty := .int) (C := nR_C) (T := nT_C) (N := 5) hx hb hts nu_C nt_C nto_C nn_C hown hK hP hD hS 5 rfl rfl 4 (by decide) (va_Nw.use rfl (hN _ nm_8)) (fun _ h9 => h9) rfl (by decide +kernel) rfl rfl (Nat.le_of_ble_eq_true rfl) nd_S_faultAtPc_31 (fun H locs hP hD hS => ?_)
    have hP : va_P D vwCl (wSC h cA (sU u 5 4 (u 0 4))) H := hP
    have hD : va_D A (wSC h cA (sU u 5 4 (u 0 4))) := hD
    refine lv_iconst (v := (4 : Int32)) hx hb nd_S_faultAtPc_34 (by decide) ?_
    exact my_ri (u' := sU u 5 4 (u 0 4)) (v := (4 : Int32)) hx hb hr hlocks hK hP hD hS hw nd_S_faultAtPc_35
  unfold f_S_faultAtPc at hw
  refine lv_aload_n hx hb nd_S_faultAtPc_0 rfl (lv_at hl 0 rfl) ?_
  refine va_get (D := D) (ci := 0) (v := .int (u 0 4)) (C := nR_S) (T := nT_S) (N := 9) hx hb hts nu_S hown hK hP 0 rfl rfl 4 (by decide) (hts _ gw_67) (fun _ h9 => h9) rfl nd_S_faultAtPc_1 ?_
  refine lv_iconst (v := (3 : Int32)) hx hb nd_S_faultAtPc_4 (by decide) ?_
  refine lv_iand hx hb nd_S_faultAtPc_5 ?_
  refine lv_if_ne (tgt := 23) hx hb nd_S_faultAtPc_6 (by decide) (fun h6 => ?_) (fun h6 => ?_)
  · have hw := (if_neg h6).symm.trans hw
    exact J23 u H locs ls hP hD hS (lv_sub hl [0] rfl) hw
  have hw := (if_pos h6).symm.trans hw
  refine lv_aload_n hx hb nd_S_faultAtPc_9 rfl (lv_at hl 0 rfl) ?_
  refine va_get (D := D) (ci := 0) (v := .ref (h 5)) (C := nR_S) (T := nT_S) (N := 9) hx hb hts nu_S hown hK hP 0 rfl rfl 2 (by decide) (hts _ gw_65) (fun _ h9 => h9) rfl nd_S_faultAtPc_10 ?_
  refine lv_aload_n hx hb nd_S_faultAtPc_13 rfl (lv_at hl 0 rfl) ?_
  refine va_get (D := D) (ci := 0) (v := .int (u 0 4)) (C := nR_S) (T := nT_S) (N := 9) hx hb hts nu_S hown hK hP 0 rfl rfl 4 (by decide) (hts _ gw_67) (fun _ h9 => h9) rfl nd_S_faultAtPc_14 ?_
  refine my_ci (wd := wSC h cA) (r := zb (f_C_forbids (u 0 4) u)) (u' := u) (va_runVN (As := [.int (u 0 4)]) (rest := []) ⟨hx, hb, hml, hown, hts⟩ (c_C_forbids l D h cA u (u 0 4) _ rfl _) ⟨va_cnB 1 hts (gw_in gw_155) rfl rfl rfl (hN _ nm_23) (hts _ gw_4) nh_C_forbids ⟨Nat.le_of_ble_eq_true rfl, Nat.le_of_ble_eq_true rfl⟩, (hts _ gw_154), (hts _ gw_153)⟩ (my_preV nwOk hP hK hD hN (va_recv hK hP (ci := 3) (q0 := 5) rfl rfl)) rfl rfl hl.1 rfl (lv_room (Nat.le_of_ble_eq_true rfl)) nd_S_faultAtPc_17 ⟨Nat.le_of_ble_eq_true rfl, Nat.le_of_ble_eq_true rfl⟩) hD hS hA (fun H locs hP hD hS => ?_)
  refine lv_if_eq (tgt := 36) hx hb nd_S_faultAtPc_20 (by decide) (fun h20 => ?_) (fun h20 => ?_)
  · have hw := (if_pos h20).symm.trans hw
    refine lv_aload_n hx hb nd_S_faultAtPc_36 rfl (lv_at hl 0 rfl) ?_
    refine va_get (D := D) (ci := 0) (v := .int (u 0 4)) (C := nR_S) (T := nT_S) (N := 9) hx hb hts nu_S hown hK hP 0 rfl rfl 4 (by decide) (hts _ gw_67) (fun _ h9 => h9) rfl nd_S_faultAtPc_37 ?_
    refine lv_ldc (own := nR_S) (v := (536870911 : Int32)) hx hb hown (hts _ gw_160) nd_S_faultAtPc_40 ?_
    refine lv_iand hx hb nd_S_faultAtPc_42 ?_
    refine my_cp (F := zb (f_S_isInMemory ((u 0 4) &&& (536870911 : Int32)))) (va_runS (As := [.int ((u 0 4) &&& (536870911 : Int32))]) (rest := []) ⟨hx, hb, hml, hown, hts⟩ (c_S_isInMemory l ((u 0 4) &&& (536870911 : Int32)) _ rfl) ⟨callB_of 1 hts (gw_in gw_163) rfl rfl rfl (hts _ gw_1) (hts _ gw_161) nh_S_isInMemory ⟨Nat.le_of_ble_eq_true rfl, Nat.le_of_ble_eq_true rfl⟩, (hts _ gw_162)⟩ my_preP rfl rfl hl.1 rfl (lv_room (Nat.le_of_ble_eq_true rfl)) nd_S_faultAtPc_43 ⟨Nat.le_of_ble_eq_true rfl, Nat.le_of_ble_eq_true rfl⟩) hP hS (fun H locs hP hS => ?_)
    refine lv_if_eq (tgt := 53) hx hb nd_S_faultAtPc_46 (by decide) (fun h46 => ?_) (fun h46 => ?_)
    · have hw := (if_pos h46).symm.trans hw
      refine lv_bipush (v := (6 : Int32)) hx hb nd_S_faultAtPc_53 (by decide) ?_
      exact my_ri (u' := u) (v := (6 : Int32)) hx hb hr hlocks hK hP hD hS hw nd_S_faultAtPc_55
    have hw := (if_neg h46).symm.trans hw
    refine lv_iconst (v := (-1 : Int32)) hx hb nd_S_faultAtPc_49 (by decide) ?_
    refine lv_goto (tgt := 55) hx hb nd_S_faultAtPc_50 (by decide) ?_
    exact my_ri (u' := u) (v := (-1 : Int32)) hx hb hr hlocks hK hP hD hS hw nd_S_faultAtPc_55
  have hw := (if_neg h20).symm.trans hw
  exact J23 u H locs ls hP hD hS (lv_sub hl [0] rfl) hw
set_option maxHeartbeats 4000000 in
set_option maxRecDepth 100000 in
theorem c_S_performByK (l : Launch) (D : va_G) (h : Nat → Nat) (cA : Nat → ClassId) (u : St) (a1 : Int32) (F : Int32 × St) (hw : f_S_performByK a1 u = F) : MI nwS vwCl l ny_S_performByK nw_S_performByK ({ frames := 3, cells := 0, slots := 0, locals := 71 }) D (tyI cA) (wSC h cA) ([.ref (h 0), .int a1] : List Value) u F := by
  refine my_in (gw := GW) (cc := nc_S_performByK) (maxL := 2) (ret := (some .int)) (Qc := fun A => QI vwCl D (tyI cA) (wSC h cA) F A) (by decide) rfl (Nat.le_of_ble_eq_true rfl) ?_
  intro p e s m below meth c A H locs ls hx hb hml hr hts hown hlocks hK hN hA hP hD hS hl
  have hown : s.vm.findClass nR_S = some m.cls := hown
  have hl : lv_has ls 2 [(0, .ref (h 0)), (1, .int a1)] := hl
  have J132 : ∀ (x1 : Int32) (u : St) (H : Heap) (locs : List Loc) (ls : Array Slot), va_P D vwCl (wSC h cA u) H → va_D A (wSC h cA u) → va_S A s.heap H locs → lv_has ls 2 [(0, .ref (h 0)), (1, .int x1)] → f_S_performByK_b132 x1 u = F →
      W p l e (headSpec nw_S_performByK ({ frames := 3, cells := 0, slots := 0, locals := 71 })).room s m ([.ref (h 0), .int a1] : List Value).toArray below meth c H locs 0 0 (MQ below (QI vwCl D (tyI cA) (wSC h cA) F A) ([.ref (h 0), .int a1] : List Value).toArray s 0 0 A) (F0 m 132 ls []) := by
    intro x1 u H locs ls hP hD hS hl hw
    unfold f_S_performByK_b132 at hw
    refine lv_aload_n hx hb nd_S_performByK_132 rfl (lv_at hl 0 rfl) ?_
    refine lv_iload_n hx hb nd_S_performByK_133 rfl (lv_at hl 1 rfl) ?_
    obtain ⟨r134, u134, hq134, hw⟩ := bnd_i hw
    refine my_ci (wd := wSC h cA) (r := r134) (u' := u134) (va_runV (As := [.int x1]) (rest := []) ⟨hx, hb, hml, hown, hts⟩ (c_S_performShift l D h cA u x1 (r134, u134) hq134 _) ⟨callB_of 1 hts (gw_in gw_199) rfl rfl rfl (hts _ gw_1) (hts _ gw_196) nh_S_performShift ⟨Nat.le_of_ble_eq_true rfl, Nat.le_of_ble_eq_true rfl⟩, (hts _ gw_198), (hts _ gw_197)⟩ (my_preV nwOk hP hK hD hN (va_recv hK hP (ci := 0) (q0 := 0) rfl rfl)) rfl rfl hl.1 rfl (lv_room (Nat.le_of_ble_eq_true rfl)) nd_S_performByK_134 ⟨Nat.le_of_ble_eq_true rfl, Nat.le_of_ble_eq_true rfl⟩) hD hS hA (fun H locs hP hD hS => ?_)
    exact my_ri (u' := u134) (v := r134) hx hb hr hlocks hK hP hD hS hw nd_S_performByK_137
  have J138 : ∀ (x1 : Int32) (u : St) (H : Heap) (locs : List Loc) (ls : Array Slot), va_P D vwCl (wSC h cA u) H → va_D A (wSC h cA u) → va_S A s.heap H locs → lv_has ls 2 [(0, .ref (h 0)), (1, .int x1)] → f_S_performByK_b138 x1 u = F →
      W p l e (headSpec nw_S_performByK ({ frames := 3, cells := 0, slots := 0, locals := 71 })).room s m ([.ref (h 0), .int a1] : List Value).toArray below meth c H locs 0 0 (MQ below (QI vwCl D (tyI cA) (wSC h cA) F A) ([.ref (h 0), .int a1] : List Value).toArray s 0 0 A) (F0 m 138 ls []) := by
    intro x1 u H locs ls hP hD hS hl hw
    unfold f_S_performByK_b138 at hw
    refine lv_aload_n hx hb nd_S_performByK_138 rfl (lv_at hl 0 rfl) ?_
    refine lv_iload_n hx hb nd_S_performByK_139 rfl (lv_at hl 1 rfl) ?_
    obtain ⟨r140, u140, hq140, hw⟩ := bnd_i hw
    refine my_ci (wd := wSC h cA) (r := r140) (u' := u140) (va_runV (As := [.int x1]) (rest := []) ⟨hx, hb, hml, hown, hts⟩ (c_S_performJumpToS l D h cA u x1 (r140, u140) hq140 _) ⟨callB_of 1 hts (gw_in gw_227) rfl rfl rfl (hts _ gw_1) (hts _ gw_224) nh_S_performJumpToS ⟨Nat.le_of_ble_eq_true rfl, Nat.le_of_ble_eq_true rfl⟩, (hts _ gw_226), (hts _ gw_225)⟩ (my_preV nwOk hP hK hD hN (va_recv hK hP (ci := 0) (q0 := 0) rfl rfl)) rfl rfl hl.1 rfl (lv_room (Nat.le_of_ble_eq_true rfl)) nd_S_performByK_140 ⟨Nat.le_of_ble_eq_true rfl, Nat.le_of_ble_eq_true rfl⟩) hD hS hA (fun H locs hP hD hS => ?_)
    exact my_ri (u' := u140) (v := r140) hx hb hr hlocks hK hP hD hS hw nd_S_performByK_143
  have J150 : ∀ (x1 : Int32) (u : St) (H : Heap) (locs : List Loc) (ls : Array Slot), va_P D vwCl (wSC h cA u) H → va_D A (wSC h cA u) → va_S A s.heap H locs → lv_has ls 2 [(0, .ref (h 0)), (1, .int x1)] → f_S_performByK_b150 x1 u = F →
      W p l e (headSpec nw_S_performByK ({ frames := 3, cells := 0, slots := 0, locals := 71 })).room s m ([.ref (h 0), .int a1] : List Value).toArray below meth c H locs 0 0 (MQ below (QI vwCl D (tyI cA) (wSC h cA) F A) ([.ref (h 0), .int a1] : List Value).toArray s 0 0 A) (F0 m 150 ls []) := by
    intro x1 u H locs ls hP hD hS hl hw
    unfold f_S_performByK_b150 at hw
    refine lv_aload_n hx hb nd_S_performByK_150 rfl (lv_at hl 0 rfl) ?_
    refine lv_iload_n hx hb nd_S_performByK_151 rfl (lv_at hl 1 rfl) ?_
    obtain ⟨r152, u152, hq152, hw⟩ := bnd_i hw
    refine my_ci (wd := wSC h cA) (r := r152) (u' := u152) (va_runV (As := [.int x1]) (rest := []) ⟨hx, hb, hml, hown, hts⟩ (c_S_performMove l D h cA u x1 (r152, u152) hq152 _) ⟨callB_of 1 hts (gw_in gw_235) rfl rfl rfl (hts _ gw_1) (hts _ gw_232) nh_S_performMove ⟨Nat.le_of_ble_eq_true rfl, Nat.le_of_ble_eq_true rfl⟩, (hts _ gw_234), (hts _ gw_233)⟩ (my_preV nwOk hP hK hD hN (va_recv hK hP (ci := 0) (q0 := 0) rfl rfl)) rfl rfl hl.1 rfl (lv_room (Nat.le_of_ble_eq_true rfl)) nd_S_performByK_152 ⟨Nat.le_of_ble_eq_true rfl, Nat.le_of_ble_eq_true rfl⟩) hD hS hA (fun H locs hP hD hS => ?_)
    exact my_ri (u' := u152) (v := r152) hx hb hr hlocks hK hP hD hS hw nd_S_performByK_155
  have J156 : ∀ (x1 : Int32) (u : St) (H : Heap) (locs : List Loc) (ls : Array Slot), va_P D vwCl (wSC h cA u) H → va_D A (wSC h cA u) → va_S A s.heap H locs → lv_has ls 2 [(0, .ref (h 0)), (1, .int x1)] → f_S_performByK_b156 x1 u = F →
      W p l e (headSpec nw_S_performByK ({ frames := 3, cells := 0, slots := 0, locals := 71 })).room s m ([.ref (h 0), .int a1] : List Value).toArray below meth c H locs 0 0 (MQ below (QI vwCl D (tyI cA) (wSC h cA) F A) ([.ref (h 0), .int a1] : List Value).toArray s 0 0 A) (F0 m 156 ls []) := by
    intro x1 u H locs ls hP hD hS hl hw
    unfold f_S_performByK_b156 at hw
    refine lv_aload_n hx hb nd_S_performByK_156 rfl (lv_at hl 0 rfl) ?_
    refine lv_iload_n hx hb nd_S_performByK_157 rfl (lv_at hl 1 rfl) ?_
    obtain ⟨r158, u158, hq158, hw⟩ := bnd_i hw
    refine my_ci (wd := wSC h cA) (r := r158) (u' := u158) (va_runV (As := [.int x1]) (rest := []) ⟨hx, hb, hml, hown, hts⟩ (c_S_performProduct l D h cA u x1 (r158, u158) hq158 _) ⟨callB_of 1 hts (gw_in gw_239) rfl rfl rfl (hts _ gw_1) (hts _ gw_236) nh_S_performProduct ⟨Nat.le_of_ble_eq_true rfl, Nat.le_of_ble_eq_true rfl⟩, (hts _ gw_238), (hts _ gw_237)⟩ (my_preV nwOk hP hK hD hN (va_recv hK hP (ci := 0) (q0 := 0) rfl rfl)) rfl rfl hl.1 rfl (lv_room (Nat.le_of_ble_eq_true rfl)) nd_S_performByK_158 ⟨Nat.le_of_ble_eq_true rfl, Nat.le_of_ble_eq_true rfl⟩) hD hS hA (fun H locs hP hD hS => ?_)
    exact my_ri (u' := u158) (v := r158) hx hb hr hlocks hK hP hD hS hw nd_S_performByK_161
  have J162 : ∀ (x1 : Int32) (u : St) (H : Heap) (locs : List Loc) (ls : Array Slot), va_P D vwCl (wSC h cA u) H → va_D A (wSC h cA u) → va_S A s.heap H locs → lv_has ls 2 [(0, .ref (h 0)), (1, .int x1)] → f_S_performByK_b162 x1 u = F →
      W p l e (headSpec nw_S_performByK ({ frames := 3, cells := 0, slots := 0, locals := 71 })).room s m ([.ref (h 0), .int a1] : List Value).toArray below meth c H locs 0 0 (MQ below (QI vwCl D (tyI cA) (wSC h cA) F A) ([.ref (h 0), .int a1] : List Value).toArray s 0 0 A) (F0 m 162 ls []) := by
    intro x1 u H locs ls hP hD hS hl hw
    unfold f_S_performByK_b162 at hw
    refine lv_aload_n hx hb nd_S_performByK_162 rfl (lv_at hl 0 rfl) ?_
    refine lv_iload_n hx hb nd_S_performByK_163 rfl (lv_at hl 1 rfl) ?_
    obtain ⟨r164, u164, hq164, hw⟩ := bnd_i hw
    refine my_ci (wd := wSC h cA) (r := r164) (u' := u164) (va_runV (As := [.int x1]) (rest := []) ⟨hx, hb, hml, hown, hts⟩ (c_S_performOnTwo l D h cA u x1 (r164, u164) hq164 _) ⟨callB_of 1 hts (gw_in gw_261) rfl rfl rfl (hts _ gw_1) (hts _ gw_258) nh_S_performOnTwo ⟨Nat.le_of_ble_eq_true rfl, Nat.le_of_ble_eq_true rfl⟩, (hts _ gw_260), (hts _ gw_259)⟩ (my_preV nwOk hP hK hD hN (va_recv hK hP (ci := 0) (q0 := 0) rfl rfl)) rfl rfl hl.1 rfl (lv_room (Nat.le_of_ble_eq_true rfl)) nd_S_performByK_164 ⟨Nat.le_of_ble_eq_true rfl, Nat.le_of_ble_eq_true rfl⟩) hD hS hA (fun H locs hP hD hS => ?_)
    exact my_ri (u' := u164) (v := r164) hx hb hr hlocks hK hP hD hS hw nd_S_performByK_167
  unfold f_S_performByK at hw
  refine lv_iload_n hx hb nd_S_performByK_0 rfl (lv_at hl 1 rfl) ?_
  refine my_cp (F := f_S_numberK a1) (va_runS (As := [.int a1]) (rest := []) ⟨hx, hb, hml, hown, hts⟩ (c_S_numberK l a1 _ rfl) ⟨callB_of 1 hts (gw_in gw_185) rfl rfl rfl (hts _ gw_1) (hts _ gw_183) nh_S_numberK ⟨Nat.le_of_ble_eq_true rfl, Nat.le_of_ble_eq_true rfl⟩, (hts _ gw_184)⟩ my_preP rfl rfl hl.1 rfl (lv_room (Nat.le_of_ble_eq_true rfl)) nd_S_performByK_1 ⟨Nat.le_of_ble_eq_true rfl, Nat.le_of_ble_eq_true rfl⟩) hP hS (fun H locs hP hS => ?_)
  rcases my_em (x := f_S_numberK a1) (0 : Int32) with h4_0 | h4_0
  · have hw := (if_pos h4_0).symm.trans hw
    refine my_swi (tgt := 132) hx hb nd_S_performByK_4 h4_0 (by decide) (by decide) rfl (by decide) ?_
    exact J132 a1 u H locs ls hP hD hS (lv_sub hl [0, 1] rfl) hw
  have hw := (if_neg h4_0).symm.trans hw
  rcases my_em (x := f_S_numberK a1) (2 : Int32) with h4_2 | h4_2
  · have hw := (if_pos h4_2).symm.trans hw
    refine my_swi (tgt := 132) hx hb nd_S_performByK_4 h4_2 (by decide) (by decide) rfl (by decide) ?_
    exact J132 a1 u H locs ls hP hD hS (lv_sub hl [0, 1] rfl) hw
  have hw := (if_neg h4_2).symm.trans hw
  rcases my_em (x := f_S_numberK a1) (3 : Int32) with h4_3 | h4_3
  · have hw := (if_pos h4_3).symm.trans hw
    refine my_swi (tgt := 132) hx hb nd_S_performByK_4 h4_3 (by decide) (by decide) rfl (by decide) ?_
    exact J132 a1 u H locs ls hP hD hS (lv_sub hl [0, 1] rfl) hw
  have hw := (if_neg h4_3).symm.trans hw
  rcases my_em (x := f_S_numberK a1) (4 : Int32) with h4_4 | h4_4
  · have hw := (if_pos h4_4).symm.trans hw
    refine my_swi (tgt := 132) hx hb nd_S_performByK_4 h4_4 (by decide) (by decide) rfl (by decide) ?_
    exact J132 a1 u H locs ls hP hD hS (lv_sub hl [0, 1] rfl) hw
  have hw := (if_neg h4_4).symm.trans hw
  rcases my_em (x := f_S_numberK a1) (6 : Int32) with h4_6 | h4_6
  · have hw := (if_pos h4_6).symm.trans hw
    refine my_swi (tgt := 132) hx hb nd_S_performByK_4 h4_6 (by decide) (by decide) rfl (by decide) ?_
    exact J132 a1 u H locs ls hP hD hS (lv_sub hl [0, 1] rfl) hw
  have hw := (if_neg h4_6).symm.trans hw
  rcases my_em (x := f_S_numberK a1) (7 : Int32) with h4_7 | h4_7
  · have hw := (if_pos h4_7).symm.trans hw
    refine my_swi (tgt := 132) hx hb nd_S_performByK_4 h4_7 (by decide) (by decide) rfl (by decide) ?_
    exact J132 a1 u H locs ls hP hD hS (lv_sub hl [0, 1] rfl) hw
  have hw := (if_neg h4_7).symm.trans hw
  rcases my_em (x := f_S_numberK a1) (8 : Int32) with h4_8 | h4_8
  · have hw := (if_pos h4_8).symm.trans hw
    refine my_swi (tgt := 138) hx hb nd_S_performByK_4 h4_8 (by decide) (by decide) rfl (by decide) ?_
    exact J138 a1 u H locs ls hP hD hS (lv_sub hl [0, 1] rfl) hw
  have hw := (if_neg h4_8).symm.trans hw
  rcases my_em (x := f_S_numberK a1) (9 : Int32) with h4_9 | h4_9
  · have hw := (if_pos h4_9).symm.trans hw
    refine my_swi (tgt := 138) hx hb nd_S_performByK_4 h4_9 (by decide) (by decide) rfl (by decide) ?_
    exact J138 a1 u H locs ls hP hD hS (lv_sub hl [0, 1] rfl) hw
  have hw := (if_neg h4_9).symm.trans hw
  rcases my_em (x := f_S_numberK a1) (12 : Int32) with h4_12 | h4_12
  · have hw := (if_pos h4_12).symm.trans hw
    refine my_swi (tgt := 144) hx hb nd_S_performByK_4 h4_12 (by decide) (by decide) rfl (by decide) ?_
    refine lv_bipush (v := (8 : Int32)) hx hb nd_S_performByK_144 (by decide) ?_
    exact my_ri (u' := u) (v := (8 : Int32)) hx hb hr hlocks hK hP hD hS hw nd_S_performByK_146
  have hw := (if_neg h4_12).symm.trans hw
  rcases my_em (x := f_S_numberK a1) (13 : Int32) with h4_13 | h4_13
  · have hw := (if_pos h4_13).symm.trans hw
    refine my_swi (tgt := 147) hx hb nd_S_performByK_4 h4_13 (by decide) (by decide) rfl (by decide) ?_
    refine lv_bipush (v := (9 : Int32)) hx hb nd_S_performByK_147 (by decide) ?_
    exact my_ri (u' := u) (v := (9 : Int32)) hx hb hr hlocks hK hP hD hS hw nd_S_performByK_149
  have hw := (if_neg h4_13).symm.trans hw
  rcases my_em (x := f_S_numberK a1) (16 : Int32) with h4_16 | h4_16
  · have hw := (if_pos h4_16).symm.trans hw
    refine my_swi (tgt := 150) hx hb nd_S_performByK_4 h4_16 (by decide) (by decide) rfl (by decide) ?_
    exact J150 a1 u H locs ls hP hD hS (lv_sub hl [0, 1] rfl) hw
  have hw := (if_neg h4_16).symm.trans hw
  rcases my_em (x := f_S_numberK a1) (17 : Int32) with h4_17 | h4_17
  · have hw := (if_pos h4_17).symm.trans hw
    refine my_swi (tgt := 150) hx hb nd_S_performByK_4 h4_17 (by decide) (by decide) rfl (by decide) ?_
    exact J150 a1 u H locs ls hP hD hS (lv_sub hl [0, 1] rfl) hw
  have hw := (if_neg h4_17).symm.trans hw
  rcases my_em (x := f_S_numberK a1) (18 : Int32) with h4_18 | h4_18
  · have hw := (if_pos h4_18).symm.trans hw
    refine my_swi (tgt := 150) hx hb nd_S_performByK_4 h4_18 (by decide) (by decide) rfl (by decide) ?_
    exact J150 a1 u H locs ls hP hD hS (lv_sub hl [0, 1] rfl) hw
  have hw := (if_neg h4_18).symm.trans hw
  rcases my_em (x := f_S_numberK a1) (19 : Int32) with h4_19 | h4_19
  · have hw := (if_pos h4_19).symm.trans hw
    refine my_swi (tgt := 150) hx hb nd_S_performByK_4 h4_19 (by decide) (by decide) rfl (by decide) ?_
    exact J150 a1 u H locs ls hP hD hS (lv_sub hl [0, 1] rfl) hw
  have hw := (if_neg h4_19).symm.trans hw
  rcases my_em (x := f_S_numberK a1) (24 : Int32) with h4_24 | h4_24
  · have hw := (if_pos h4_24).symm.trans hw
    refine my_swi (tgt := 156) hx hb nd_S_performByK_4 h4_24 (by decide) (by decide) rfl (by decide) ?_
    exact J156 a1 u H locs ls hP hD hS (lv_sub hl [0, 1] rfl) hw
  have hw := (if_neg h4_24).symm.trans hw
  rcases my_em (x := f_S_numberK a1) (25 : Int32) with h4_25 | h4_25
  · have hw := (if_pos h4_25).symm.trans hw
    refine my_swi (tgt := 156) hx hb nd_S_performByK_4 h4_25 (by decide) (by decide) rfl (by decide) ?_
    exact J156 a1 u H locs ls hP hD hS (lv_sub hl [0, 1] rfl) hw
  have hw := (if_neg h4_25).symm.trans hw
  rcases my_em (x := f_S_numberK a1) (26 : Int32) with h4_26 | h4_26
  · have hw := (if_pos h4_26).symm.trans hw
    refine my_swi (tgt := 156) hx hb nd_S_performByK_4 h4_26 (by decide) (by decide) rfl (by decide) ?_
    exact J156 a1 u H locs ls hP hD hS (lv_sub hl [0, 1] rfl) hw
  have hw := (if_neg h4_26).symm.trans hw
  rcases my_em (x := f_S_numberK a1) (27 : Int32) with h4_27 | h4_27
  · have hw := (if_pos h4_27).symm.trans hw
    refine my_swi (tgt := 156) hx hb nd_S_performByK_4 h4_27 (by decide) (by decide) rfl (by decide) ?_
    exact J156 a1 u H locs ls hP hD hS (lv_sub hl [0, 1] rfl) hw
  have hw := (if_neg h4_27).symm.trans hw
  refine my_swd (tgt := 162) hx hb nd_S_performByK_4 (my_nec h4_0 (my_nec h4_2 (my_nec h4_3 (my_nec h4_4 (my_nec h4_6 (my_nec h4_7 (my_nec h4_8 (my_nec h4_9 (my_nec h4_12 (my_nec h4_13 (my_nec h4_16 (my_nec h4_17 (my_nec h4_18 (my_nec h4_19 (my_nec h4_24 (my_nec h4_25 (my_nec h4_26 (my_nec h4_27 my_nen)))))))))))))))))) (by decide +kernel) (by decide) ?_
  exact J162 a1 u H locs ls hP hD hS (lv_sub hl [0, 1] rfl) hw
set_option maxHeartbeats 4000000 in
set_option maxRecDepth 100000 in
theorem c_S_perform (l : Launch) (D : va_G) (h : Nat → Nat) (cA : Nat → ClassId) (u : St) (a1 : Int32) (F : Int32 × St) (hw : f_S_perform a1 u = F) : MI nwS vwCl l ny_S_perform nw_S_perform ({ frames := 4, cells := 0, slots := 0, locals := 92 }) D (tyI cA) (wSC h cA) ([.ref (h 0), .int a1] : List Value) u F := by
  refine my_in (gw := GW) (cc := nc_S_perform) (maxL := 2) (ret := (some .int)) (Qc := fun A => QI vwCl D (tyI cA) (wSC h cA) F A) (by decide) rfl (Nat.le_of_ble_eq_true rfl) ?_
  intro p e s m below meth c A H locs ls hx hb hml hr hts hown hlocks hK hN hA hP hD hS hl
  have hown : s.vm.findClass nR_S = some m.cls := hown
  have hl : lv_has ls 2 [(0, .ref (h 0)), (1, .int a1)] := hl
  have J248 : ∀ (x1 : Int32) (u : St) (H : Heap) (locs : List Loc) (ls : Array Slot), va_P D vwCl (wSC h cA u) H → va_D A (wSC h cA u) → va_S A s.heap H locs → lv_has ls 2 [(0, .ref (h 0)), (1, .int x1)] → f_S_perform_b248 x1 u = F →
      W p l e (headSpec nw_S_perform ({ frames := 4, cells := 0, slots := 0, locals := 92 })).room s m ([.ref (h 0), .int a1] : List Value).toArray below meth c H locs 0 0 (MQ below (QI vwCl D (tyI cA) (wSC h cA) F A) ([.ref (h 0), .int a1] : List Value).toArray s 0 0 A) (F0 m 248 ls []) := by
    intro x1 u H locs ls hP hD hS hl hw
    unfold f_S_perform_b248 at hw
    refine lv_aload_n hx hb nd_S_perform_248 rfl (lv_at hl 0 rfl) ?_
    refine lv_iload_n hx hb nd_S_perform_249 rfl (lv_at hl 1 rfl) ?_
    obtain ⟨r250, u250, hq250, hw⟩ := bnd_i hw
    refine my_ci (wd := wSC h cA) (r := r250) (u' := u250) (va_runV (As := [.int x1]) (rest := []) ⟨hx, hb, hml, hown, hts⟩ (c_S_performJump l D h cA u x1 (r250, u250) hq250 _) ⟨callB_of 1 hts (gw_in gw_284) rfl rfl rfl (hts _ gw_1) (hts _ gw_281) nh_S_performJump ⟨Nat.le_of_ble_eq_true rfl, Nat.le_of_ble_eq_true rfl⟩, (hts _ gw_283), (hts _ gw_282)⟩ (my_preV nwOk hP hK hD hN (va_recv hK hP (ci := 0) (q0 := 0) rfl rfl)) rfl rfl hl.1 rfl (lv_room (Nat.le_of_ble_eq_true rfl)) nd_S_perform_250 ⟨Nat.le_of_ble_eq_true rfl, Nat.le_of_ble_eq_true rfl⟩) hD hS hA (fun H locs hP hD hS => ?_)
    exact my_ri (u' := u250) (v := r250) hx hb hr hlocks hK hP hD hS hw nd_S_perform_253
  have J254 : ∀ (x1 : Int32) (u : St) (H : Heap) (locs : List Loc) (ls : Array Slot), va_P D vwCl (wSC h cA u) H → va_D A (wSC h cA u) → va_S A s.heap H locs → lv_has ls 2 [(0, .ref (h 0)), (1, .int x1)] → f_S_perform_b254 x1 u = F →
      W p l e (headSpec nw_S_perform ({ frames := 4, cells := 0, slots := 0, locals := 92 })).room s m ([.ref (h 0), .int a1] : List Value).toArray below meth c H locs 0 0 (MQ below (QI vwCl D (tyI cA) (wSC h cA) F A) ([.ref (h 0), .int a1] : List Value).toArray s 0 0 A) (F0 m 254 ls []) := by
    intro x1 u H locs ls hP hD hS hl hw
    unfold f_S_perform_b254 at hw
    refine lv_aload_n hx hb nd_S_perform_254 rfl (lv_at hl 0 rfl) ?_
    refine lv_iload_n hx hb nd_S_perform_255 rfl (lv_at hl 1 rfl) ?_
    obtain ⟨r256, u256, hq256, hw⟩ := bnd_i hw
    refine my_ci (wd := wSC h cA) (r := r256) (u' := u256) (va_runV (As := [.int x1]) (rest := []) ⟨hx, hb, hml, hown, hts⟩ (c_S_performBranch l D h cA u x1 (r256, u256) hq256 _) ⟨callB_of 1 hts (gw_in gw_294) rfl rfl rfl (hts _ gw_1) (hts _ gw_291) nh_S_performBranch ⟨Nat.le_of_ble_eq_true rfl, Nat.le_of_ble_eq_true rfl⟩, (hts _ gw_293), (hts _ gw_292)⟩ (my_preV nwOk hP hK hD hN (va_recv hK hP (ci := 0) (q0 := 0) rfl rfl)) rfl rfl hl.1 rfl (lv_room (Nat.le_of_ble_eq_true rfl)) nd_S_perform_256 ⟨Nat.le_of_ble_eq_true rfl, Nat.le_of_ble_eq_true rfl⟩) hD hS hA (fun H locs hP hD hS => ?_)
    exact my_ri (u' := u256) (v := r256) hx hb hr hlocks hK hP hD hS hw nd_S_perform_259
  have J260 : ∀ (x1 : Int32) (u : St) (H : Heap) (locs : List Loc) (ls : Array Slot), va_P D vwCl (wSC h cA u) H → va_D A (wSC h cA u) → va_S A s.heap H locs → lv_has ls 2 [(0, .ref (h 0)), (1, .int x1)] → f_S_perform_b260 x1 u = F →
      W p l e (headSpec nw_S_perform ({ frames := 4, cells := 0, slots := 0, locals := 92 })).room s m ([.ref (h 0), .int a1] : List Value).toArray below meth c H locs 0 0 (MQ below (QI vwCl D (tyI cA) (wSC h cA) F A) ([.ref (h 0), .int a1] : List Value).toArray s 0 0 A) (F0 m 260 ls []) := by
    intro x1 u H locs ls hP hD hS hl hw
    unfold f_S_perform_b260 at hw
    refine lv_aload_n hx hb nd_S_perform_260 rfl (lv_at hl 0 rfl) ?_
    refine lv_iload_n hx hb nd_S_perform_261 rfl (lv_at hl 1 rfl) ?_
    obtain ⟨r262, u262, hq262, hw⟩ := bnd_i hw
    refine my_ci (wd := wSC h cA) (r := r262) (u' := u262) (va_runV (As := [.int x1]) (rest := []) ⟨hx, hb, hml, hown, hts⟩ (c_S_performWithNumber l D h cA u x1 (r262, u262) hq262 _) ⟨callB_of 1 hts (gw_in gw_298) rfl rfl rfl (hts _ gw_1) (hts _ gw_295) nh_S_performWithNumber ⟨Nat.le_of_ble_eq_true rfl, Nat.le_of_ble_eq_true rfl⟩, (hts _ gw_297), (hts _ gw_296)⟩ (my_preV nwOk hP hK hD hN (va_recv hK hP (ci := 0) (q0 := 0) rfl rfl)) rfl rfl hl.1 rfl (lv_room (Nat.le_of_ble_eq_true rfl)) nd_S_perform_262 ⟨Nat.le_of_ble_eq_true rfl, Nat.le_of_ble_eq_true rfl⟩) hD hS hA (fun H locs hP hD hS => ?_)
    exact my_ri (u' := u262) (v := r262) hx hb hr hlocks hK hP hD hS hw nd_S_perform_265
  have J272 : ∀ (x1 : Int32) (u : St) (H : Heap) (locs : List Loc) (ls : Array Slot), va_P D vwCl (wSC h cA u) H → va_D A (wSC h cA u) → va_S A s.heap H locs → lv_has ls 2 [(0, .ref (h 0)), (1, .int x1)] → f_S_perform_b272 x1 u = F →
      W p l e (headSpec nw_S_perform ({ frames := 4, cells := 0, slots := 0, locals := 92 })).room s m ([.ref (h 0), .int a1] : List Value).toArray below meth c H locs 0 0 (MQ below (QI vwCl D (tyI cA) (wSC h cA) F A) ([.ref (h 0), .int a1] : List Value).toArray s 0 0 A) (F0 m 272 ls []) := by
    intro x1 u H locs ls hP hD hS hl hw
    unfold f_S_perform_b272 at hw
    refine lv_aload_n hx hb nd_S_perform_272 rfl (lv_at hl 0 rfl) ?_
    refine lv_iload_n hx hb nd_S_perform_273 rfl (lv_at hl 1 rfl) ?_
    obtain ⟨r274, u274, hq274, hw⟩ := bnd_i hw
    refine my_ci (wd := wSC h cA) (r := r274) (u' := u274) (va_runV (As := [.int x1]) (rest := []) ⟨hx, hb, hml, hown, hts⟩ (c_S_performLoad l D h cA u x1 (r274, u274) hq274 _) ⟨callB_of 1 hts (gw_in gw_320) rfl rfl rfl (hts _ gw_1) (hts _ gw_317) nh_S_performLoad ⟨Nat.le_of_ble_eq_true rfl, Nat.le_of_ble_eq_true rfl⟩, (hts _ gw_319), (hts _ gw_318)⟩ (my_preV nwOk hP hK hD hN (va_recv hK hP (ci := 0) (q0 := 0) rfl rfl)) rfl rfl hl.1 rfl (lv_room (Nat.le_of_ble_eq_true rfl)) nd_S_perform_274 ⟨Nat.le_of_ble_eq_true rfl, Nat.le_of_ble_eq_true rfl⟩) hD hS hA (fun H locs hP hD hS => ?_)
    exact my_ri (u' := u274) (v := r274) hx hb hr hlocks hK hP hD hS hw nd_S_perform_277
  have J278 : ∀ (x1 : Int32) (u : St) (H : Heap) (locs : List Loc) (ls : Array Slot), va_P D vwCl (wSC h cA u) H → va_D A (wSC h cA u) → va_S A s.heap H locs → lv_has ls 2 [(0, .ref (h 0)), (1, .int x1)] → f_S_perform_b278 x1 u = F →
      W p l e (headSpec nw_S_perform ({ frames := 4, cells := 0, slots := 0, locals := 92 })).room s m ([.ref (h 0), .int a1] : List Value).toArray below meth c H locs 0 0 (MQ below (QI vwCl D (tyI cA) (wSC h cA) F A) ([.ref (h 0), .int a1] : List Value).toArray s 0 0 A) (F0 m 278 ls []) := by
    intro x1 u H locs ls hP hD hS hl hw
    unfold f_S_perform_b278 at hw
    refine lv_aload_n hx hb nd_S_perform_278 rfl (lv_at hl 0 rfl) ?_
    refine lv_iload_n hx hb nd_S_perform_279 rfl (lv_at hl 1 rfl) ?_
    obtain ⟨r280, u280, hq280, hw⟩ := bnd_i hw
    refine my_ci (wd := wSC h cA) (r := r280) (u' := u280) (va_runV (As := [.int x1]) (rest := []) ⟨hx, hb, hml, hown, hts⟩ (c_S_performStore l D h cA u x1 (r280, u280) hq280 _) ⟨callB_of 1 hts (gw_in gw_349) rfl rfl rfl (hts _ gw_1) (hts _ gw_346) nh_S_performStore ⟨Nat.le_of_ble_eq_true rfl, Nat.le_of_ble_eq_true rfl⟩, (hts _ gw_348), (hts _ gw_347)⟩ (my_preV nwOk hP hK hD hN (va_recv hK hP (ci := 0) (q0 := 0) rfl rfl)) rfl rfl hl.1 rfl (lv_room (Nat.le_of_ble_eq_true rfl)) nd_S_perform_280 ⟨Nat.le_of_ble_eq_true rfl, Nat.le_of_ble_eq_true rfl⟩) hD hS hA (fun H locs hP hD hS => ?_)
    exact my_ri (u' := u280) (v := r280) hx hb hr hlocks hK hP hD hS hw nd_S_perform_283
  have J30 : ∀ (x1 : Int32) (u : St) (H : Heap) (locs : List Loc) (ls : Array Slot), va_P D vwCl (wSC h cA u) H → va_D A (wSC h cA u) → va_S A s.heap H locs → lv_has ls 2 [(0, .ref (h 0)), (1, .int x1)] → f_S_perform_b30 x1 u = F →
      W p l e (headSpec nw_S_perform ({ frames := 4, cells := 0, slots := 0, locals := 92 })).room s m ([.ref (h 0), .int a1] : List Value).toArray below meth c H locs 0 0 (MQ below (QI vwCl D (tyI cA) (wSC h cA) F A) ([.ref (h 0), .int a1] : List Value).toArray s 0 0 A) (F0 m 30 ls []) := by
    intro x1 u H locs ls hP hD hS hl hw
    unfold f_S_perform_b30 at hw
    refine lv_iload_n hx hb nd_S_perform_30 rfl (lv_at hl 1 rfl) ?_
    refine my_cp (F := f_S_orderOf x1) (va_runS (As := [.int x1]) (rest := []) ⟨hx, hb, hml, hown, hts⟩ (c_S_orderOf l x1 _ rfl) ⟨callB_of 1 hts (gw_in gw_182) rfl rfl rfl (hts _ gw_1) (hts _ gw_180) nh_S_orderOf ⟨Nat.le_of_ble_eq_true rfl, Nat.le_of_ble_eq_true rfl⟩, (hts _ gw_181)⟩ my_preP rfl rfl hl.1 rfl (lv_room (Nat.le_of_ble_eq_true rfl)) nd_S_perform_31 ⟨Nat.le_of_ble_eq_true rfl, Nat.le_of_ble_eq_true rfl⟩) hP hS (fun H locs hP hS => ?_)
    rcases my_em (x := f_S_orderOf x1) (0 : Int32) with h34_0 | h34_0
    · have hw := (if_pos h34_0).symm.trans hw
      refine my_swi (tgt := 236) hx hb nd_S_perform_34 h34_0 (by decide) (by decide) rfl (by decide) ?_
      refine lv_aload_n hx hb nd_S_perform_236 rfl (lv_at hl 0 rfl) ?_
      refine lv_iload_n hx hb nd_S_perform_237 rfl (lv_at hl 1 rfl) ?_
      obtain ⟨r238, u238, hq238, hw⟩ := bnd_i hw
      refine my_ci (wd := wSC h cA) (r := r238) (u' := u238) (va_runV (As := [.int x1]) (rest := []) ⟨hx, hb, hml, hown, hts⟩ (c_S_performByK l D h cA u x1 (r238, u238) hq238 _) ⟨callB_of 1 hts (gw_in gw_195) rfl rfl rfl (hts _ gw_1) (hts _ gw_192) nh_S_performByK ⟨Nat.le_of_ble_eq_true rfl, Nat.le_of_ble_eq_true rfl⟩, (hts _ gw_194), (hts _ gw_193)⟩ (my_preV nwOk hP hK hD hN (va_recv hK hP (ci := 0) (q0 := 0) rfl rfl)) rfl rfl hl.1 rfl (lv_room (Nat.le_of_ble_eq_true rfl)) nd_S_perform_238 ⟨Nat.le_of_ble_eq_true rfl, Nat.le_of_ble_eq_true rfl⟩) hD hS hA (fun H locs hP hD hS => ?_)
      exact my_ri (u' := u238) (v := r238) hx hb hr hlocks hK hP hD hS hw nd_S_perform_241
    have hw := (if_neg h34_0).symm.trans hw
    rcases my_em (x := f_S_orderOf x1) (1 : Int32) with h34_1 | h34_1
    · have hw := (if_pos h34_1).symm.trans hw
      refine my_swi (tgt := 242) hx hb nd_S_perform_34 h34_1 (by decide) (by decide) rfl (by decide) ?_
      refine lv_aload_n hx hb nd_S_perform_242 rfl (lv_at hl 0 rfl) ?_
      refine lv_iload_n hx hb nd_S_perform_243 rfl (lv_at hl 1 rfl) ?_
      obtain ⟨r244, u244, hq244, hw⟩ := bnd_i hw
      refine my_ci (wd := wSC h cA) (r := r244) (u' := u244) (va_runV (As := [.int x1]) (rest := []) ⟨hx, hb, hml, hown, hts⟩ (c_S_performBranchBySign l D h cA u x1 (r244, u244) hq244 _) ⟨callB_of 1 hts (gw_in gw_273) rfl rfl rfl (hts _ gw_1) (hts _ gw_270) nh_S_performBranchBySign ⟨Nat.le_of_ble_eq_true rfl, Nat.le_of_ble_eq_true rfl⟩, (hts _ gw_272), (hts _ gw_271)⟩ (my_preV nwOk hP hK hD hN (va_recv hK hP (ci := 0) (q0 := 0) rfl rfl)) rfl rfl hl.1 rfl (lv_room (Nat.le_of_ble_eq_true rfl)) nd_S_perform_244 ⟨Nat.le_of_ble_eq_true rfl, Nat.le_of_ble_eq_true rfl⟩) hD hS hA (fun H locs hP hD hS => ?_)
      exact my_ri (u' := u244) (v := r244) hx hb hr hlocks hK hP hD hS hw nd_S_perform_247
    have hw := (if_neg h34_1).symm.trans hw
    rcases my_em (x := f_S_orderOf x1) (2 : Int32) with h34_2 | h34_2
    · have hw := (if_pos h34_2).symm.trans hw
      refine my_swi (tgt := 248) hx hb nd_S_perform_34 h34_2 (by decide) (by decide) rfl (by decide) ?_
      exact J248 x1 u H locs ls hP hD hS (lv_sub hl [0, 1] rfl) hw
    have hw := (if_neg h34_2).symm.trans hw
    rcases my_em (x := f_S_orderOf x1) (3 : Int32) with h34_3 | h34_3
    · have hw := (if_pos h34_3).symm.trans hw
      refine my_swi (tgt := 248) hx hb nd_S_perform_34 h34_3 (by decide) (by decide) rfl (by decide) ?_
      exact J248 x1 u H locs ls hP hD hS (lv_sub hl [0, 1] rfl) hw
    have hw := (if_neg h34_3).symm.trans hw
    rcases my_em (x := f_S_orderOf x1) (4 : Int32) with h34_4 | h34_4
    · have hw := (if_pos h34_4).symm.trans hw
      refine my_swi (tgt := 254) hx hb nd_S_perform_34 h34_4 (by decide) (by decide) rfl (by decide) ?_
      exact J254 x1 u H locs ls hP hD hS (lv_sub hl [0, 1] rfl) hw
    have hw := (if_neg h34_4).symm.trans hw
    rcases my_em (x := f_S_orderOf x1) (5 : Int32) with h34_5 | h34_5
    · have hw := (if_pos h34_5).symm.trans hw
      refine my_swi (tgt := 254) hx hb nd_S_perform_34 h34_5 (by decide) (by decide) rfl (by decide) ?_
      exact J254 x1 u H locs ls hP hD hS (lv_sub hl [0, 1] rfl) hw
    have hw := (if_neg h34_5).symm.trans hw
    rcases my_em (x := f_S_orderOf x1) (6 : Int32) with h34_6 | h34_6
    · have hw := (if_pos h34_6).symm.trans hw
      refine my_swi (tgt := 254) hx hb nd_S_perform_34 h34_6 (by decide) (by decide) rfl (by decide) ?_
      exact J254 x1 u H locs ls hP hD hS (lv_sub hl [0, 1] rfl) hw
    have hw := (if_neg h34_6).symm.trans hw
    rcases my_em (x := f_S_orderOf x1) (7 : Int32) with h34_7 | h34_7
    · have hw := (if_pos h34_7).symm.trans hw
      refine my_swi (tgt := 254) hx hb nd_S_perform_34 h34_7 (by decide) (by decide) rfl (by decide) ?_
      exact J254 x1 u H locs ls hP hD hS (lv_sub hl [0, 1] rfl) hw
    have hw := (if_neg h34_7).symm.trans hw
    rcases my_em (x := f_S_orderOf x1) (8 : Int32) with h34_8 | h34_8
    · have hw := (if_pos h34_8).symm.trans hw
      refine my_swi (tgt := 260) hx hb nd_S_perform_34 h34_8 (by decide) (by decide) rfl (by decide) ?_
      exact J260 x1 u H locs ls hP hD hS (lv_sub hl [0, 1] rfl) hw
    have hw := (if_neg h34_8).symm.trans hw
    rcases my_em (x := f_S_orderOf x1) (9 : Int32) with h34_9 | h34_9
    · have hw := (if_pos h34_9).symm.trans hw
      refine my_swi (tgt := 260) hx hb nd_S_perform_34 h34_9 (by decide) (by decide) rfl (by decide) ?_
      exact J260 x1 u H locs ls hP hD hS (lv_sub hl [0, 1] rfl) hw
    have hw := (if_neg h34_9).symm.trans hw
    rcases my_em (x := f_S_orderOf x1) (10 : Int32) with h34_10 | h34_10
    · have hw := (if_pos h34_10).symm.trans hw
      refine my_swi (tgt := 260) hx hb nd_S_perform_34 h34_10 (by decide) (by decide) rfl (by decide) ?_
      exact J260 x1 u H locs ls hP hD hS (lv_sub hl [0, 1] rfl) hw
    have hw := (if_neg h34_10).symm.trans hw
    rcases my_em (x := f_S_orderOf x1) (11 : Int32) with h34_11 | h34_11
    · have hw := (if_pos h34_11).symm.trans hw
      refine my_swi (tgt := 260) hx hb nd_S_perform_34 h34_11 (by decide) (by decide) rfl (by decide) ?_
      exact J260 x1 u H locs ls hP hD hS (lv_sub hl [0, 1] rfl) hw
    have hw := (if_neg h34_11).symm.trans hw
    rcases my_em (x := f_S_orderOf x1) (12 : Int32) with h34_12 | h34_12
    · have hw := (if_pos h34_12).symm.trans hw
      refine my_swi (tgt := 260) hx hb nd_S_perform_34 h34_12 (by decide) (by decide) rfl (by decide) ?_
      exact J260 x1 u H locs ls hP hD hS (lv_sub hl [0, 1] rfl) hw
    have hw := (if_neg h34_12).symm.trans hw
    rcases my_em (x := f_S_orderOf x1) (13 : Int32) with h34_13 | h34_13
    · have hw := (if_pos h34_13).symm.trans hw
      refine my_swi (tgt := 260) hx hb nd_S_perform_34 h34_13 (by decide) (by decide) rfl (by decide) ?_
      exact J260 x1 u H locs ls hP hD hS (lv_sub hl [0, 1] rfl) hw
    have hw := (if_neg h34_13).symm.trans hw
    rcases my_em (x := f_S_orderOf x1) (14 : Int32) with h34_14 | h34_14
    · have hw := (if_pos h34_14).symm.trans hw
      refine my_swi (tgt := 260) hx hb nd_S_perform_34 h34_14 (by decide) (by decide) rfl (by decide) ?_
      exact J260 x1 u H locs ls hP hD hS (lv_sub hl [0, 1] rfl) hw
    have hw := (if_neg h34_14).symm.trans hw
    rcases my_em (x := f_S_orderOf x1) (15 : Int32) with h34_15 | h34_15
    · have hw := (if_pos h34_15).symm.trans hw
      refine my_swi (tgt := 260) hx hb nd_S_perform_34 h34_15 (by decide) (by decide) rfl (by decide) ?_
      exact J260 x1 u H locs ls hP hD hS (lv_sub hl [0, 1] rfl) hw
    have hw := (if_neg h34_15).symm.trans hw
    rcases my_em (x := f_S_orderOf x1) (16 : Int32) with h34_16 | h34_16
    · have hw := (if_pos h34_16).symm.trans hw
      refine my_swi (tgt := 266) hx hb nd_S_perform_34 h34_16 (by decide) (by decide) rfl (by decide) ?_
      refine lv_aload_n hx hb nd_S_perform_266 rfl (lv_at hl 0 rfl) ?_
      refine lv_iload_n hx hb nd_S_perform_267 rfl (lv_at hl 1 rfl) ?_
      obtain ⟨r268, u268, hq268, hw⟩ := bnd_i hw
      refine my_ci (wd := wSC h cA) (r := r268) (u' := u268) (va_runV (As := [.int x1]) (rest := []) ⟨hx, hb, hml, hown, hts⟩ (c_S_performControl l D h cA u x1 (r268, u268) hq268 _) ⟨callB_of 1 hts (gw_in gw_306) rfl rfl rfl (hts _ gw_1) (hts _ gw_303) nh_S_performControl ⟨Nat.le_of_ble_eq_true rfl, Nat.le_of_ble_eq_true rfl⟩, (hts _ gw_305), (hts _ gw_304)⟩ (my_preV nwOk hP hK hD hN (va_recv hK hP (ci := 0) (q0 := 0) rfl rfl)) rfl rfl hl.1 rfl (lv_room (Nat.le_of_ble_eq_true rfl)) nd_S_perform_268 ⟨Nat.le_of_ble_eq_true rfl, Nat.le_of_ble_eq_true rfl⟩) hD hS hA (fun H locs hP hD hS => ?_)
      exact my_ri (u' := u268) (v := r268) hx hb hr hlocks hK hP hD hS hw nd_S_perform_271
    have hw := (if_neg h34_16).symm.trans hw
    rcases my_em (x := f_S_orderOf x1) (32 : Int32) with h34_32 | h34_32
    · have hw := (if_pos h34_32).symm.trans hw
      refine my_swi (tgt := 272) hx hb nd_S_perform_34 h34_32 (by decide) (by decide) rfl (by decide) ?_
      exact J272 x1 u H locs ls hP hD hS (lv_sub hl [0, 1] rfl) hw
    have hw := (if_neg h34_32).symm.trans hw
    rcases my_em (x := f_S_orderOf x1) (33 : Int32) with h34_33 | h34_33
    · have hw := (if_pos h34_33).symm.trans hw
      refine my_swi (tgt := 272) hx hb nd_S_perform_34 h34_33 (by decide) (by decide) rfl (by decide) ?_
      exact J272 x1 u H locs ls hP hD hS (lv_sub hl [0, 1] rfl) hw
    have hw := (if_neg h34_33).symm.trans hw
    rcases my_em (x := f_S_orderOf x1) (34 : Int32) with h34_34 | h34_34
    · have hw := (if_pos h34_34).symm.trans hw
      refine my_swi (tgt := 272) hx hb nd_S_perform_34 h34_34 (by decide) (by decide) rfl (by decide) ?_
      exact J272 x1 u H locs ls hP hD hS (lv_sub hl [0, 1] rfl) hw
    have hw := (if_neg h34_34).symm.trans hw
    rcases my_em (x := f_S_orderOf x1) (35 : Int32) with h34_35 | h34_35
    · have hw := (if_pos h34_35).symm.trans hw
      refine my_swi (tgt := 272) hx hb nd_S_perform_34 h34_35 (by decide) (by decide) rfl (by decide) ?_
      exact J272 x1 u H locs ls hP hD hS (lv_sub hl [0, 1] rfl) hw
    have hw := (if_neg h34_35).symm.trans hw
    rcases my_em (x := f_S_orderOf x1) (36 : Int32) with h34_36 | h34_36
    · have hw := (if_pos h34_36).symm.trans hw
      refine my_swi (tgt := 272) hx hb nd_S_perform_34 h34_36 (by decide) (by decide) rfl (by decide) ?_
      exact J272 x1 u H locs ls hP hD hS (lv_sub hl [0, 1] rfl) hw
    have hw := (if_neg h34_36).symm.trans hw
    rcases my_em (x := f_S_orderOf x1) (37 : Int32) with h34_37 | h34_37
    · have hw := (if_pos h34_37).symm.trans hw
      refine my_swi (tgt := 272) hx hb nd_S_perform_34 h34_37 (by decide) (by decide) rfl (by decide) ?_
      exact J272 x1 u H locs ls hP hD hS (lv_sub hl [0, 1] rfl) hw
    have hw := (if_neg h34_37).symm.trans hw
    rcases my_em (x := f_S_orderOf x1) (38 : Int32) with h34_38 | h34_38
    · have hw := (if_pos h34_38).symm.trans hw
      refine my_swi (tgt := 272) hx hb nd_S_perform_34 h34_38 (by decide) (by decide) rfl (by decide) ?_
      exact J272 x1 u H locs ls hP hD hS (lv_sub hl [0, 1] rfl) hw
    have hw := (if_neg h34_38).symm.trans hw
    rcases my_em (x := f_S_orderOf x1) (40 : Int32) with h34_40 | h34_40
    · have hw := (if_pos h34_40).symm.trans hw
      refine my_swi (tgt := 278) hx hb nd_S_perform_34 h34_40 (by decide) (by decide) rfl (by decide) ?_
      exact J278 x1 u H locs ls hP hD hS (lv_sub hl [0, 1] rfl) hw
    have hw := (if_neg h34_40).symm.trans hw
    rcases my_em (x := f_S_orderOf x1) (41 : Int32) with h34_41 | h34_41
    · have hw := (if_pos h34_41).symm.trans hw
      refine my_swi (tgt := 278) hx hb nd_S_perform_34 h34_41 (by decide) (by decide) rfl (by decide) ?_
      exact J278 x1 u H locs ls hP hD hS (lv_sub hl [0, 1] rfl) hw
    have hw := (if_neg h34_41).symm.trans hw
    rcases my_em (x := f_S_orderOf x1) (42 : Int32) with h34_42 | h34_42
    · have hw := (if_pos h34_42).symm.trans hw
      refine my_swi (tgt := 278) hx hb nd_S_perform_34 h34_42 (by decide) (by decide) rfl (by decide) ?_
      exact J278 x1 u H locs ls hP hD hS (lv_sub hl [0, 1] rfl) hw
    have hw := (if_neg h34_42).symm.trans hw
    rcases my_em (x := f_S_orderOf x1) (43 : Int32) with h34_43 | h34_43
    · have hw := (if_pos h34_43).symm.trans hw
      refine my_swi (tgt := 278) hx hb nd_S_perform_34 h34_43 (by decide) (by decide) rfl (by decide) ?_
      exact J278 x1 u H locs ls hP hD hS (lv_sub hl [0, 1] rfl) hw
    have hw := (if_neg h34_43).symm.trans hw
    rcases my_em (x := f_S_orderOf x1) (46 : Int32) with h34_46 | h34_46
    · have hw := (if_pos h34_46).symm.trans hw
      refine my_swi (tgt := 278) hx hb nd_S_perform_34 h34_46 (by decide) (by decide) rfl (by decide) ?_
      exact J278 x1 u H locs ls hP hD hS (lv_sub hl [0, 1] rfl) hw
    have hw := (if_neg h34_46).symm.trans hw
    refine my_swd (tgt := 284) hx hb nd_S_perform_34 (my_nec h34_0 (my_nec h34_1 (my_nec h34_2 (my_nec h34_3 (my_nec h34_4 (my_nec h34_5 (my_nec h34_6 (my_nec h34_7 (my_nec h34_8 (my_nec h34_9 (my_nec h34_10 (my_nec h34_11 (my_nec h34_12 (my_nec h34_13 (my_nec h34_14 (my_nec h34_15 (my_nec h34_16 (my_nec h34_32 (my_nec h34_33 (my_nec h34_34 (my_nec h34_35 (my_nec h34_36 (my_nec h34_37 (my_nec h34_38 (my_nec h34_40 (my_nec h34_41 (my_nec h34_42 (my_nec h34_43 (my_nec h34_46 my_nen))))))))))))))))))))))))))))) (by decide +kernel) (by decide) ?_
    refine lv_bipush (v := (10 : Int32)) hx hb nd_S_perform_284 (by decide) ?_
    exact my_ri (u' := u) (v := (10 : Int32)) hx hb hr hlocks hK hP hD hS hw nd_S_perform_286
  unfold f_S_perform at hw
  refine lv_aload_n hx hb nd_S_perform_0 rfl (lv_at hl 0 rfl) ?_
  refine va_get (D := D) (ci := 0) (v := .ref (h 6)) (C := nR_S) (T := nT_S) (N := 9) hx hb hts nu_S hown hK hP 0 rfl rfl 3 (by decide) (hts _ gw_66) (fun _ h9 => h9) rfl nd_S_perform_1 ?_
  refine lv_aload_n hx hb nd_S_perform_4 rfl (lv_at hl 0 rfl) ?_
  refine va_get (D := D) (ci := 0) (v := .int (u 0 5)) (C := nR_S) (T := nT_S) (N := 9) hx hb hts nu_S hown hK hP 0 rfl rfl 5 (by decide) (hts _ gw_68) (fun _ h9 => h9) rfl nd_S_perform_5 ?_
  refine lv_iconst (v := (4 : Int32)) hx hb nd_S_perform_8 (by decide) ?_
  refine lv_iadd hx hb nd_S_perform_9 ?_
  obtain ⟨u10, hq10, hw⟩ := bnv_i hw
  refine my_cv (wd := wSC h cA) (F := u10) (va_runVN (As := [.int ((u 0 5) + (4 : Int32))]) (rest := []) ⟨hx, hb, hml, hown, hts⟩ (c_O_begin l D h cA u ((u 0 5) + (4 : Int32)) u10 hq10 _) ⟨va_cnB 1 hts (gw_in gw_176) rfl rfl rfl (hN _ nm_25) (hts _ gw_5) nh_O_begin ⟨Nat.le_of_ble_eq_true rfl, Nat.le_of_ble_eq_true rfl⟩, (hts _ gw_175), (hts _ gw_174)⟩ (my_preV nwOk hP hK hD hN (va_recv hK hP (ci := 4) (q0 := 6) rfl rfl)) rfl rfl hl.1 rfl (lv_room (Nat.le_of_ble_eq_true rfl)) nd_S_perform_10 ⟨Nat.le_of_ble_eq_true rfl, Nat.le_of_ble_eq_true rfl⟩) hD hS hA (fun H locs hP hD hS => ?_)
  refine lv_aload_n hx hb nd_S_perform_13 rfl (lv_at hl 0 rfl) ?_
  refine va_get (D := D) (ci := 0) (v := .int (zb (u10 0 6))) (C := nR_S) (T := nT_S) (N := 9) hx hb hts nu_S hown hK hP 0 rfl rfl 6 (by decide) (hts _ gw_69) (fun _ h9 => h9) rfl nd_S_perform_14 ?_
  refine lv_if_eq (tgt := 30) hx hb nd_S_perform_17 (by decide) (fun h17 => ?_) (fun h17 => ?_)
  · have hw := (if_pos h17).symm.trans hw
    exact J30 a1 u10 H locs ls hP hD hS (lv_sub hl [0, 1] rfl) hw
  have hw := (if_neg h17).symm.trans hw
  refine lv_iload_n hx hb nd_S_perform_20 rfl (lv_at hl 1 rfl) ?_
  refine my_cp (F := zb (f_S_isBranch a1)) (va_runS (As := [.int a1]) (rest := []) ⟨hx, hb, hml, hown, hts⟩ (c_S_isBranch l a1 _ rfl) ⟨callB_of 1 hts (gw_in gw_179) rfl rfl rfl (hts _ gw_1) (hts _ gw_177) nh_S_isBranch ⟨Nat.le_of_ble_eq_true rfl, Nat.le_of_ble_eq_true rfl⟩, (hts _ gw_178)⟩ my_preP rfl rfl hl.1 rfl (lv_room (Nat.le_of_ble_eq_true rfl)) nd_S_perform_21 ⟨Nat.le_of_ble_eq_true rfl, Nat.le_of_ble_eq_true rfl⟩) hP hS (fun H locs hP hS => ?_)
  refine lv_if_eq (tgt := 30) hx hb nd_S_perform_24 (by decide) (fun h24 => ?_) (fun h24 => ?_)
  · have hw := (if_pos h24).symm.trans hw
    exact J30 a1 u10 H locs ls hP hD hS (lv_sub hl [0, 1] rfl) hw
  have hw := (if_neg h24).symm.trans hw
  refine lv_bipush (v := (10 : Int32)) hx hb nd_S_perform_27 (by decide) ?_
  exact my_ri (u' := u10) (v := (10 : Int32)) hx hb hr hlocks hK hP hD hS hw nd_S_perform_29
set_option maxHeartbeats 4000000 in
set_option maxRecDepth 100000 in
theorem c_S_finishInstruction (l : Launch) (D : va_G) (h : Nat → Nat) (cA : Nat → ClassId) (u : St) (F : St) (hw : f_S_finishInstruction u = F) : MV nwS vwCl l ny_S_finishInstruction nw_S_finishInstruction ({ frames := 3, cells := 0, slots := 0, locals := 62 }) D (tyI cA) (wSC h cA) ([.ref (h 0)] : List Value) u F := by
  refine my_in (gw := GW) (cc := nc_S_finishInstruction) (maxL := 1) (ret := none) (Qc := fun A => QV vwCl D (tyI cA) (wSC h cA) F A) (by decide) rfl (Nat.le_of_ble_eq_true rfl) ?_
  intro p e s m below meth c A H locs ls hx hb hml hr hts hown hlocks hK hN hA hP hD hS hl
  have hown : s.vm.findClass nR_S = some m.cls := hown
  have hl : lv_has ls 1 [(0, .ref (h 0))] := hl
  have J62 : ∀ (u : St) (H : Heap) (locs : List Loc) (ls : Array Slot), va_P D vwCl (wSC h cA u) H → va_D A (wSC h cA u) → va_S A s.heap H locs → lv_has ls 1 [(0, .ref (h 0))] → f_S_finishInstruction_b62 u = F →
      W p l e (headSpec nw_S_finishInstruction ({ frames := 3, cells := 0, slots := 0, locals := 62 })).room s m ([.ref (h 0)] : List Value).toArray below meth c H locs 0 0 (MQ below (QV vwCl D (tyI cA) (wSC h cA) F A) ([.ref (h 0)] : List Value).toArray s 0 0 A) (F0 m 62 ls []) := by
    intro u H locs ls hP hD hS hl hw
    unfold f_S_finishInstruction_b62 at hw
    refine lv_aload_n hx hb nd_S_finishInstruction_62 rfl (lv_at hl 0 rfl) ?_
    refine lv_aload_n hx hb nd_S_finishInstruction_63 rfl (lv_at hl 0 rfl) ?_
    refine va_get (D := D) (ci := 0) (v := .int (u 0 5)) (C := nR_S) (T := nT_S) (N := 9) hx hb hts nu_S hown hK hP 0 rfl rfl 5 (by decide) (hts _ gw_68) (fun _ h9 => h9) rfl nd_S_finishInstruction_64 ?_
    refine va_put (D := D) (ci := 0) (v := .int (u 0 5)) (ty := .int) (C := nR_S) (T := nT_S) (N := 9) hx hb hts nu_S nt_S nto_S nn_S hown hK hP hD hS 0 rfl rfl 4 (by decide) (hts _ gw_67) (fun _ h9 => h9) rfl (by decide +kernel) rfl rfl (Nat.le_of_ble_eq_true rfl) nd_S_finishInstruction_67 (fun H locs hP hD hS => ?_)
    have hP : va_P D vwCl (wSC h cA (sU u 0 4 (u 0 5))) H := hP
    have hD : va_D A (wSC h cA (sU u 0 4 (u 0 5))) := hD
    refine lv_aload_n hx hb nd_S_finishInstruction_70 rfl (lv_at hl 0 rfl) ?_
    refine lv_aload_n hx hb nd_S_finishInstruction_71 rfl (lv_at hl 0 rfl) ?_
    refine va_get (D := D) (ci := 0) (v := .ref (h 6)) (C := nR_S) (T := nT_S) (N := 9) hx hb hts nu_S hown hK hP 0 rfl rfl 3 (by decide) (hts _ gw_66) (fun _ h9 => h9) rfl nd_S_finishInstruction_72 ?_
    refine va_getN (D := D) (ci := 4) (v := .int (u 6 4)) (C := nR_O) (T := nT_O) (N := 5) hx hb hts nu_O hown hK hP 6 rfl rfl 4 (by decide) (va_Nw.use rfl (hN _ nm_14)) (fun _ h9 => h9) rfl nd_S_finishInstruction_75 ?_
    refine va_put (D := D) (ci := 0) (v := .int (u 6 4)) (ty := .int) (C := nR_S) (T := nT_S) (N := 9) hx hb hts nu_S nt_S nto_S nn_S hown hK hP hD hS 0 rfl rfl 5 (by decide) (hts _ gw_68) (fun _ h9 => h9) rfl (by decide +kernel) rfl rfl (Nat.le_of_ble_eq_true rfl) nd_S_finishInstruction_78 (fun H locs hP hD hS => ?_)
    have hP : va_P D vwCl (wSC h cA (sU (sU u 0 4 (u 0 5)) 0 5 (u 6 4))) H := hP
    have hD : va_D A (wSC h cA (sU (sU u 0 4 (u 0 5)) 0 5 (u 6 4))) := hD
    refine lv_aload_n hx hb nd_S_finishInstruction_81 rfl (lv_at hl 0 rfl) ?_
    refine lv_aload_n hx hb nd_S_finishInstruction_82 rfl (lv_at hl 0 rfl) ?_
    refine va_get (D := D) (ci := 0) (v := .ref (h 6)) (C := nR_S) (T := nT_S) (N := 9) hx hb hts nu_S hown hK hP 0 rfl rfl 3 (by decide) (hts _ gw_66) (fun _ h9 => h9) rfl nd_S_finishInstruction_83 ?_
    refine va_getN (D := D) (ci := 4) (v := .int (zb (u 6 3))) (C := nR_O) (T := nT_O) (N := 5) hx hb hts nu_O hown hK hP 6 rfl rfl 3 (by decide) (va_Nw.use rfl (hN _ nm_13)) (fun _ h9 => h9) rfl nd_S_finishInstruction_86 ?_
    refine va_put (D := D) (ci := 0) (v := .int (zb (u 6 3))) (ty := .boolean) (C := nR_S) (T := nT_S) (N := 9) hx hb hts nu_S nt_S nto_S nn_S hown hK hP hD hS 0 rfl rfl 6 (by decide) (hts _ gw_69) (fun _ h9 => h9) rfl (by decide +kernel) (zb_n _) (zb_f _) (Nat.le_of_ble_eq_true rfl) nd_S_finishInstruction_89 (fun H locs hP hD hS => ?_)
    have hP : va_P D vwCl (wSC h cA (sU (sU (sU u 0 4 (u 0 5)) 0 5 (u 6 4)) 0 6 (u 6 3))) H := hP
    have hD : va_D A (wSC h cA (sU (sU (sU u 0 4 (u 0 5)) 0 5 (u 6 4)) 0 6 (u 6 3))) := hD
    exact my_rv (u' := sU (sU (sU u 0 4 (u 0 5)) 0 5 (u 6 4)) 0 6 (u 6 3)) hx hb hr hlocks hK hP hD hS hw nd_S_finishInstruction_92
  unfold f_S_finishInstruction at hw
  refine lv_aload_n hx hb nd_S_finishInstruction_0 rfl (lv_at hl 0 rfl) ?_
  refine va_get (D := D) (ci := 0) (v := .ref (h 3)) (C := nR_S) (T := nT_S) (N := 9) hx hb hts nu_S hown hK hP 0 rfl rfl 1 (by decide) (hts _ gw_64) (fun _ h9 => h9) rfl nd_S_finishInstruction_1 ?_
  obtain ⟨u4, hq4, hw⟩ := bnv_i hw
  refine my_cv (wd := wSC h cA) (F := u4) (va_runVN (As := []) (rest := []) ⟨hx, hb, hml, hown, hts⟩ (c_R_landLoad l D h cA u u4 hq4 _) ⟨va_cnB 0 hts (gw_in gw_139) rfl rfl rfl (hN _ nm_21) (hts _ gw_3) nh_R_landLoad ⟨Nat.le_of_ble_eq_true rfl, Nat.le_of_ble_eq_true rfl⟩, (hts _ gw_138), (hts _ gw_137)⟩ (my_preV nwOk hP hK hD hN (va_recv hK hP (ci := 2) (q0 := 3) rfl rfl)) rfl rfl hl.1 rfl (lv_room (Nat.le_of_ble_eq_true rfl)) nd_S_finishInstruction_4 ⟨Nat.le_of_ble_eq_true rfl, Nat.le_of_ble_eq_true rfl⟩) hD hS hA (fun H locs hP hD hS => ?_)
  refine lv_aload_n hx hb nd_S_finishInstruction_7 rfl (lv_at hl 0 rfl) ?_
  refine va_get (D := D) (ci := 0) (v := .ref (h 6)) (C := nR_S) (T := nT_S) (N := 9) hx hb hts nu_S hown hK hP 0 rfl rfl 3 (by decide) (hts _ gw_66) (fun _ h9 => h9) rfl nd_S_finishInstruction_8 ?_
  refine va_getN (D := D) (ci := 4) (v := .int (zb (u4 6 2))) (C := nR_O) (T := nT_O) (N := 5) hx hb hts nu_O hown hK hP 6 rfl rfl 2 (by decide) (va_Nw.use rfl (hN _ nm_12)) (fun _ h9 => h9) rfl nd_S_finishInstruction_11 ?_
  refine lv_if_eq (tgt := 41) hx hb nd_S_finishInstruction_14 (by decide) (fun h14 => ?_) (fun h14 => ?_)
  · have hw := (if_pos h14).symm.trans hw
    refine lv_aload_n hx hb nd_S_finishInstruction_41 rfl (lv_at hl 0 rfl) ?_
    refine va_get (D := D) (ci := 0) (v := .ref (h 3)) (C := nR_S) (T := nT_S) (N := 9) hx hb hts nu_S hown hK hP 0 rfl rfl 1 (by decide) (hts _ gw_64) (fun _ h9 => h9) rfl nd_S_finishInstruction_42 ?_
    refine lv_aload_n hx hb nd_S_finishInstruction_45 rfl (lv_at hl 0 rfl) ?_
    refine va_get (D := D) (ci := 0) (v := .ref (h 6)) (C := nR_S) (T := nT_S) (N := 9) hx hb hts nu_S hown hK hP 0 rfl rfl 3 (by decide) (hts _ gw_66) (fun _ h9 => h9) rfl nd_S_finishInstruction_46 ?_
    refine va_getN (D := D) (ci := 4) (v := .int (u4 6 0)) (C := nR_O) (T := nT_O) (N := 5) hx hb hts nu_O hown hK hP 6 rfl rfl 0 (by decide) (va_Nw.use rfl (hN _ nm_10)) (fun _ h9 => h9) rfl nd_S_finishInstruction_49 ?_
    refine lv_aload_n hx hb nd_S_finishInstruction_52 rfl (lv_at hl 0 rfl) ?_
    refine va_get (D := D) (ci := 0) (v := .ref (h 6)) (C := nR_S) (T := nT_S) (N := 9) hx hb hts nu_S hown hK hP 0 rfl rfl 3 (by decide) (hts _ gw_66) (fun _ h9 => h9) rfl nd_S_finishInstruction_53 ?_
    refine va_getN (D := D) (ci := 4) (v := .int (u4 6 1)) (C := nR_O) (T := nT_O) (N := 5) hx hb hts nu_O hown hK hP 6 rfl rfl 1 (by decide) (va_Nw.use rfl (hN _ nm_11)) (fun _ h9 => h9) rfl nd_S_finishInstruction_56 ?_
    obtain ⟨u59, hq59, hw⟩ := bnv_i hw
    refine my_cv (wd := wSC h cA) (F := u59) (va_runVN (As := [.int (u4 6 0), .int (u4 6 1)]) (rest := []) ⟨hx, hb, hml, hown, hts⟩ (c_R_change l D h cA u4 (u4 6 0) (u4 6 1) u59 hq59 _) ⟨va_cnB 2 hts (gw_in gw_143) rfl rfl rfl (hN _ nm_27) (hts _ gw_3) nh_R_change ⟨Nat.le_of_ble_eq_true rfl, Nat.le_of_ble_eq_true rfl⟩, (hts _ gw_142), (hts _ gw_141)⟩ (my_preV nwOk hP hK hD hN (va_recv hK hP (ci := 2) (q0 := 3) rfl rfl)) rfl rfl hl.1 rfl (lv_room (Nat.le_of_ble_eq_true rfl)) nd_S_finishInstruction_59 ⟨Nat.le_of_ble_eq_true rfl, Nat.le_of_ble_eq_true rfl⟩) hD hS hA (fun H locs hP hD hS => ?_)
    exact J62 u59 H locs ls hP hD hS (lv_sub hl [0] rfl) hw
  have hw := (if_neg h14).symm.trans hw
  refine lv_aload_n hx hb nd_S_finishInstruction_17 rfl (lv_at hl 0 rfl) ?_
  refine va_get (D := D) (ci := 0) (v := .ref (h 3)) (C := nR_S) (T := nT_S) (N := 9) hx hb hts nu_S hown hK hP 0 rfl rfl 1 (by decide) (hts _ gw_64) (fun _ h9 => h9) rfl nd_S_finishInstruction_18 ?_
  refine lv_aload_n hx hb nd_S_finishInstruction_21 rfl (lv_at hl 0 rfl) ?_
  refine va_get (D := D) (ci := 0) (v := .ref (h 6)) (C := nR_S) (T := nT_S) (N := 9) hx hb hts nu_S hown hK hP 0 rfl rfl 3 (by decide) (hts _ gw_66) (fun _ h9 => h9) rfl nd_S_finishInstruction_22 ?_
  refine va_getN (D := D) (ci := 4) (v := .int (u4 6 0)) (C := nR_O) (T := nT_O) (N := 5) hx hb hts nu_O hown hK hP 6 rfl rfl 0 (by decide) (va_Nw.use rfl (hN _ nm_10)) (fun _ h9 => h9) rfl nd_S_finishInstruction_25 ?_
  refine lv_aload_n hx hb nd_S_finishInstruction_28 rfl (lv_at hl 0 rfl) ?_
  refine va_get (D := D) (ci := 0) (v := .ref (h 6)) (C := nR_S) (T := nT_S) (N := 9) hx hb hts nu_S hown hK hP 0 rfl rfl 3 (by decide) (hts _ gw_66) (fun _ h9 => h9) rfl nd_S_finishInstruction_29 ?_
  refine va_getN (D := D) (ci := 4) (v := .int (u4 6 1)) (C := nR_O) (T := nT_O) (N := 5) hx hb hts nu_O hown hK hP 6 rfl rfl 1 (by decide) (va_Nw.use rfl (hN _ nm_11)) (fun _ h9 => h9) rfl nd_S_finishInstruction_32 ?_
  obtain ⟨u35, hq35, hw⟩ := bnv_i hw
  refine my_cv (wd := wSC h cA) (F := u35) (va_runVN (As := [.int (u4 6 0), .int (u4 6 1)]) (rest := []) ⟨hx, hb, hml, hown, hts⟩ (c_R_holdLoad l D h cA u4 (u4 6 0) (u4 6 1) u35 hq35 _) ⟨va_cnB 2 hts (gw_in gw_95) rfl rfl rfl (hN _ nm_33) (hts _ gw_3) nh_R_holdLoad ⟨Nat.le_of_ble_eq_true rfl, Nat.le_of_ble_eq_true rfl⟩, (hts _ gw_94), (hts _ gw_93)⟩ (my_preV nwOk hP hK hD hN (va_recv hK hP (ci := 2) (q0 := 3) rfl rfl)) rfl rfl hl.1 rfl (lv_room (Nat.le_of_ble_eq_true rfl)) nd_S_finishInstruction_35 ⟨Nat.le_of_ble_eq_true rfl, Nat.le_of_ble_eq_true rfl⟩) hD hS hA (fun H locs hP hD hS => ?_)
  refine lv_goto (tgt := 62) hx hb nd_S_finishInstruction_38 (by decide) ?_
  exact J62 u35 H locs ls hP hD hS (lv_sub hl [0] rfl) hw
set_option maxHeartbeats 4000000 in
set_option maxRecDepth 100000 in
theorem c_S_takeStep (l : Launch) (D : va_G) (h : Nat → Nat) (cA : Nat → ClassId) (u : St) (F : Int32 × St) (hw : f_S_takeStep u = F) : MI nwS vwCl l ny_S_takeStep nw_S_takeStep ({ frames := 5, cells := 0, slots := 0, locals := 113 }) D (tyI cA) (wSC h cA) ([.ref (h 0)] : List Value) u F := by
  refine my_in (gw := GW) (cc := nc_S_takeStep) (maxL := 2) (ret := (some .int)) (Qc := fun A => QI vwCl D (tyI cA) (wSC h cA) F A) (by decide) rfl (Nat.le_of_ble_eq_true rfl) ?_
  intro p e s m below meth c A H locs ls hx hb hml hr hts hown hlocks hK hN hA hP hD hS hl
  have hown : s.vm.findClass nR_S = some m.cls := hown
  have hl : lv_has ls 2 [(0, .ref (h 0))] := hl
  have J56 : ∀ (x1 : Int32) (u : St) (H : Heap) (locs : List Loc) (ls : Array Slot), va_P D vwCl (wSC h cA u) H → va_D A (wSC h cA u) → va_S A s.heap H locs → lv_has ls 2 [(0, .ref (h 0)), (1, .int x1)] → f_S_takeStep_b56 x1 u = F →
      W p l e (headSpec nw_S_takeStep ({ frames := 5, cells := 0, slots := 0, locals := 113 })).room s m ([.ref (h 0)] : List Value).toArray below meth c H locs 0 0 (MQ below (QI vwCl D (tyI cA) (wSC h cA) F A) ([.ref (h 0)] : List Value).toArray s 0 0 A) (F0 m 56 ls []) := by
    intro x1 u H locs ls hP hD hS hl hw
    unfold f_S_takeStep_b56 at hw
    refine lv_iload_n hx hb nd_S_takeStep_56 rfl (lv_at hl 1 rfl) ?_
    refine lv_iconst (v := (-1 : Int32)) hx hb nd_S_takeStep_57 (by decide) ?_
    refine lv_icmp_eq (tgt := 68) hx hb nd_S_takeStep_58 (by decide) (fun h58 => ?_) (fun h58 => ?_)
    · have hw := (if_pos h58).symm.trans hw
      refine lv_aload_n hx hb nd_S_takeStep_68 rfl (lv_at hl 0 rfl) ?_
      obtain ⟨u69, hq69, hw⟩ := bnv_i hw
      refine my_cv (wd := wSC h cA) (F := u69) (va_runV (As := []) (rest := []) ⟨hx, hb, hml, hown, hts⟩ (c_S_finishInstruction l D h cA u u69 hq69 _) ⟨callB_of 0 hts (gw_in gw_362) rfl rfl rfl (hts _ gw_1) (hts _ gw_359) nh_S_finishInstruction ⟨Nat.le_of_ble_eq_true rfl, Nat.le_of_ble_eq_true rfl⟩, (hts _ gw_361), (hts _ gw_360)⟩ (my_preV nwOk hP hK hD hN (va_recv hK hP (ci := 0) (q0 := 0) rfl rfl)) rfl rfl hl.1 rfl (lv_room (Nat.le_of_ble_eq_true rfl)) nd_S_takeStep_69 ⟨Nat.le_of_ble_eq_true rfl, Nat.le_of_ble_eq_true rfl⟩) hD hS hA (fun H locs hP hD hS => ?_)
      refine lv_iconst (v := (0 : Int32)) hx hb nd_S_takeStep_72 (by decide) ?_
      exact my_ri (u' := u69) (v := (0 : Int32)) hx hb hr hlocks hK hP hD hS hw nd_S_takeStep_73
    have hw := (if_neg h58).symm.trans hw
    refine lv_aload_n hx hb nd_S_takeStep_61 rfl (lv_at hl 0 rfl) ?_
    refine lv_iload_n hx hb nd_S_takeStep_62 rfl (lv_at hl 1 rfl) ?_
    obtain ⟨u63, hq63, hw⟩ := bnv_i hw
    refine my_cv (wd := wSC h cA) (F := u63) (va_runV (As := [.int x1]) (rest := []) ⟨hx, hb, hml, hown, hts⟩ (c_S_enterException l D h cA u x1 u63 hq63 _) ⟨callB_of 1 hts (gw_in gw_136) rfl rfl rfl (hts _ gw_1) (hts _ gw_133) nh_S_enterException ⟨Nat.le_of_ble_eq_true rfl, Nat.le_of_ble_eq_true rfl⟩, (hts _ gw_135), (hts _ gw_134)⟩ (my_preV nwOk hP hK hD hN (va_recv hK hP (ci := 0) (q0 := 0) rfl rfl)) rfl rfl hl.1 rfl (lv_room (Nat.le_of_ble_eq_true rfl)) nd_S_takeStep_63 ⟨Nat.le_of_ble_eq_true rfl, Nat.le_of_ble_eq_true rfl⟩) hD hS hA (fun H locs hP hD hS => ?_)
    refine lv_iconst (v := (1 : Int32)) hx hb nd_S_takeStep_66 (by decide) ?_
    exact my_ri (u' := u63) (v := (1 : Int32)) hx hb hr hlocks hK hP hD hS hw nd_S_takeStep_67
  unfold f_S_takeStep at hw
  refine lv_aload_n hx hb nd_S_takeStep_0 rfl (lv_at hl 0 rfl) ?_
  refine lv_dup hx hb nd_S_takeStep_1 rfl ?_
  refine va_get (D := D) (ci := 0) (v := .int (u 0 7)) (C := nR_S) (T := nT_S) (N := 9) hx hb hts nu_S hown hK hP 0 rfl rfl 7 (by decide) (hts _ gw_70) (fun _ h9 => h9) rfl nd_S_takeStep_2 ?_
  refine lv_iconst (v := (1 : Int32)) hx hb nd_S_takeStep_5 (by decide) ?_
  refine lv_iadd hx hb nd_S_takeStep_6 ?_
  refine va_put (D := D) (ci := 0) (v := .int ((u 0 7) + (1 : Int32))) (ty := .int) (C := nR_S) (T := nT_S) (N := 9) hx hb hts nu_S nt_S nto_S nn_S hown hK hP hD hS 0 rfl rfl 7 (by decide) (hts _ gw_70) (fun _ h9 => h9) rfl (by decide +kernel) rfl rfl (Nat.le_of_ble_eq_true rfl) nd_S_takeStep_7 (fun H locs hP hD hS => ?_)
  have hP : va_P D vwCl (wSC h cA (sU u 0 7 ((u 0 7) + (1 : Int32)))) H := hP
  have hD : va_D A (wSC h cA (sU u 0 7 ((u 0 7) + (1 : Int32)))) := hD
  refine lv_aload_n hx hb nd_S_takeStep_10 rfl (lv_at hl 0 rfl) ?_
  refine va_get (D := D) (ci := 0) (v := .ref (h 5)) (C := nR_S) (T := nT_S) (N := 9) hx hb hts nu_S hown hK hP 0 rfl rfl 2 (by decide) (hts _ gw_65) (fun _ h9 => h9) rfl nd_S_takeStep_11 ?_
  refine my_ci (wd := wSC h cA) (r := zb (f_C_interruptIsDue (sU u 0 7 ((u 0 7) + (1 : Int32))))) (u' := sU u 0 7 ((u 0 7) + (1 : Int32))) (va_runVN (As := []) (rest := []) ⟨hx, hb, hml, hown, hts⟩ (c_C_interruptIsDue l D h cA (sU u 0 7 ((u 0 7) + (1 : Int32))) _ rfl _) ⟨va_cnB 0 hts (gw_in gw_127) rfl rfl rfl (hN _ nm_20) (hts _ gw_4) nh_C_interruptIsDue ⟨Nat.le_of_ble_eq_true rfl, Nat.le_of_ble_eq_true rfl⟩, (hts _ gw_126), (hts _ gw_125)⟩ (my_preV nwOk hP hK hD hN (va_recv hK hP (ci := 3) (q0 := 5) rfl rfl)) rfl rfl hl.1 rfl (lv_room (Nat.le_of_ble_eq_true rfl)) nd_S_takeStep_14 ⟨Nat.le_of_ble_eq_true rfl, Nat.le_of_ble_eq_true rfl⟩) hD hS hA (fun H locs hP hD hS => ?_)
  refine lv_if_eq (tgt := 27) hx hb nd_S_takeStep_17 (by decide) (fun h17 => ?_) (fun h17 => ?_)
  · have hw := (if_pos h17).symm.trans hw
    refine lv_aload_n hx hb nd_S_takeStep_27 rfl (lv_at hl 0 rfl) ?_
    obtain ⟨r28, u28, hq28, hw⟩ := bnd_i hw
    refine my_ci (wd := wSC h cA) (r := r28) (u' := u28) (va_runV (As := []) (rest := []) ⟨hx, hb, hml, hown, hts⟩ (c_S_faultAtPc l D h cA (sU u 0 7 ((u 0 7) + (1 : Int32))) (r28, u28) hq28 _) ⟨callB_of 0 hts (gw_in gw_152) rfl rfl rfl (hts _ gw_1) (hts _ gw_149) nh_S_faultAtPc ⟨Nat.le_of_ble_eq_true rfl, Nat.le_of_ble_eq_true rfl⟩, (hts _ gw_151), (hts _ gw_150)⟩ (my_preV nwOk hP hK hD hN (va_recv hK hP (ci := 0) (q0 := 0) rfl rfl)) rfl rfl hl.1 rfl (lv_room (Nat.le_of_ble_eq_true rfl)) nd_S_takeStep_28 ⟨Nat.le_of_ble_eq_true rfl, Nat.le_of_ble_eq_true rfl⟩) hD hS hA (fun H locs hP hD hS => ?_)
    refine lv_istore_n (lv' := [(1, .int r28), (0, .ref (h 0))]) hx hb nd_S_takeStep_31 rfl hl (by decide) rfl (fun ls hl => ?_)
    refine lv_iload_n hx hb nd_S_takeStep_32 rfl (lv_at hl 0 rfl) ?_
    refine lv_iconst (v := (-1 : Int32)) hx hb nd_S_takeStep_33 (by decide) ?_
    refine lv_icmp_ne (tgt := 56) hx hb nd_S_takeStep_34 (by decide) (fun h34 => ?_) (fun h34 => ?_)
    · have hw := (if_neg h34).symm.trans hw
      exact J56 r28 u28 H locs ls hP hD hS (lv_sub hl [1, 0] rfl) hw
    have hw := (if_pos h34).symm.trans hw
    refine lv_aload_n hx hb nd_S_takeStep_37 rfl (lv_at hl 1 rfl) ?_
    refine lv_aload_n hx hb nd_S_takeStep_38 rfl (lv_at hl 1 rfl) ?_
    refine va_get (D := D) (ci := 0) (v := .ref (h 1)) (C := nR_S) (T := nT_S) (N := 9) hx hb hts nu_S hown hK hP 0 rfl rfl 0 (by decide) (hts _ gw_63) (fun _ h9 => h9) rfl nd_S_takeStep_39 ?_
    refine lv_aload_n hx hb nd_S_takeStep_42 rfl (lv_at hl 1 rfl) ?_
    refine va_get (D := D) (ci := 0) (v := .int (u28 0 4)) (C := nR_S) (T := nT_S) (N := 9) hx hb hts nu_S hown hK hP 0 rfl rfl 4 (by decide) (hts _ gw_67) (fun _ h9 => h9) rfl nd_S_takeStep_43 ?_
    refine lv_ldc (own := nR_S) (v := (536870911 : Int32)) hx hb hown (hts _ gw_160) nd_S_takeStep_46 ?_
    refine lv_iand hx hb nd_S_takeStep_48 ?_
    refine my_ci (wd := wSC h cA) (r := f_M_wordAround ((u28 0 4) &&& (536870911 : Int32)) u28) (u' := u28) (va_runVN (As := [.int ((u28 0 4) &&& (536870911 : Int32))]) (rest := [.ref (h 0)]) ⟨hx, hb, hml, hown, hts⟩ (c_M_wordAround l D h cA u28 ((u28 0 4) &&& (536870911 : Int32)) _ rfl _) ⟨va_cnB 1 hts (gw_in gw_166) rfl rfl rfl (hN _ nm_24) (hts _ gw_2) nh_M_wordAround ⟨Nat.le_of_ble_eq_true rfl, Nat.le_of_ble_eq_true rfl⟩, (hts _ gw_165), (hts _ gw_164)⟩ (my_preV nwOk hP hK hD hN (va_recv hK hP (ci := 1) (q0 := 1) rfl rfl)) rfl rfl hl.1 rfl (lv_room (Nat.le_of_ble_eq_true rfl)) nd_S_takeStep_49 ⟨Nat.le_of_ble_eq_true rfl, Nat.le_of_ble_eq_true rfl⟩) hD hS hA (fun H locs hP hD hS => ?_)
    obtain ⟨r52, u52, hq52, hw⟩ := bnd_i hw
    refine my_ci (wd := wSC h cA) (r := r52) (u' := u52) (va_runV (As := [.int (f_M_wordAround ((u28 0 4) &&& (536870911 : Int32)) u28)]) (rest := []) ⟨hx, hb, hml, hown, hts⟩ (c_S_perform l D h cA u28 (f_M_wordAround ((u28 0 4) &&& (536870911 : Int32)) u28) (r52, u52) hq52 _) ⟨callB_of 1 hts (gw_in gw_173) rfl rfl rfl (hts _ gw_1) (hts _ gw_170) nh_S_perform ⟨Nat.le_of_ble_eq_true rfl, Nat.le_of_ble_eq_true rfl⟩, (hts _ gw_172), (hts _ gw_171)⟩ (my_preV nwOk hP hK hD hN (va_recv hK hP (ci := 0) (q0 := 0) rfl rfl)) rfl rfl hl.1 rfl (lv_room (Nat.le_of_ble_eq_true rfl)) nd_S_takeStep_52 ⟨Nat.le_of_ble_eq_true rfl, Nat.le_of_ble_eq_true rfl⟩) hD hS hA (fun H locs hP hD hS => ?_)
    refine lv_istore_n (lv' := [(1, .int r52), (0, .ref (h 0))]) hx hb nd_S_takeStep_55 rfl hl (by decide) rfl (fun ls hl => ?_)
    exact J56 r52 u52 H locs ls hP hD hS (lv_sub hl [1, 0] rfl) hw
  have hw := (if_neg h17).symm.trans hw
  refine lv_aload_n hx hb nd_S_takeStep_20 rfl (lv_at hl 0 rfl) ?_
  refine lv_iconst (v := (0 : Int32)) hx hb nd_S_takeStep_21 (by decide) ?_
  obtain ⟨u22, hq22, hw⟩ := bnv_i hw
  refine my_cv (wd := wSC h cA) (F := u22) (va_runV (As := [.int (0 : Int32)]) (rest := []) ⟨hx, hb, hml, hown, hts⟩ (c_S_enterException l D h cA (sU u 0 7 ((u 0 7) + (1 : Int32))) (0 : Int32) u22 hq22 _) ⟨callB_of 1 hts (gw_in gw_136) rfl rfl rfl (hts _ gw_1) (hts _ gw_133) nh_S_enterException ⟨Nat.le_of_ble_eq_true rfl, Nat.le_of_ble_eq_true rfl⟩, (hts _ gw_135), (hts _ gw_134)⟩ (my_preV nwOk hP hK hD hN (va_recv hK hP (ci := 0) (q0 := 0) rfl rfl)) rfl rfl hl.1 rfl (lv_room (Nat.le_of_ble_eq_true rfl)) nd_S_takeStep_22 ⟨Nat.le_of_ble_eq_true rfl, Nat.le_of_ble_eq_true rfl⟩) hD hS hA (fun H locs hP hD hS => ?_)
  refine lv_iconst (v := (2 : Int32)) hx hb nd_S_takeStep_25 (by decide) ?_
  exact my_ri (u' := u22) (v := (2 : Int32)) hx hb hr hlocks hK hP hD hS hw nd_S_takeStep_26
set_option maxHeartbeats 4000000 in
set_option maxRecDepth 100000 in
theorem c_S_step (l : Launch) (D : va_G) (h : Nat → Nat) (cA : Nat → ClassId) (u : St) (F : Int32 × St) (hw : f_S_step u = F) : MI nwS vwCl l ny_S_step nw_S_step ({ frames := 6, cells := 0, slots := 0, locals := 134 }) D (tyI cA) (wSC h cA) ([.ref (h 0)] : List Value) u F := by
  refine my_in (gw := GW) (cc := nc_S_step) (maxL := 1) (ret := (some .int)) (Qc := fun A => QI vwCl D (tyI cA) (wSC h cA) F A) (by decide) rfl (Nat.le_of_ble_eq_true rfl) ?_
  intro p e s m below meth c A H locs ls hx hb hml hr hts hown hlocks hK hN hA hP hD hS hl
  have hown : s.vm.findClass nR_S = some m.cls := hown
  have hl : lv_has ls 1 [(0, .ref (h 0))] := hl
  unfold f_S_step at hw
  refine lv_aload_n hx hb nd_S_step_0 rfl (lv_at hl 0 rfl) ?_
  obtain ⟨r1, u1, hq1, hw⟩ := bnd_i hw
  refine my_ci (wd := wSC h cA) (r := r1) (u' := u1) (va_runV (As := []) (rest := []) ⟨hx, hb, hml, hown, hts⟩ (c_S_takeStep l D h cA u (r1, u1) hq1 _) ⟨callB_of 0 hts (gw_in gw_124) rfl rfl rfl (hts _ gw_1) (hts _ gw_121) nh_S_takeStep ⟨Nat.le_of_ble_eq_true rfl, Nat.le_of_ble_eq_true rfl⟩, (hts _ gw_123), (hts _ gw_122)⟩ (my_preV nwOk hP hK hD hN (va_recv hK hP (ci := 0) (q0 := 0) rfl rfl)) rfl rfl hl.1 rfl (lv_room (Nat.le_of_ble_eq_true rfl)) nd_S_step_1 ⟨Nat.le_of_ble_eq_true rfl, Nat.le_of_ble_eq_true rfl⟩) hD hS hA (fun H locs hP hD hS => ?_)
  exact my_ri (u' := u1) (v := r1) hx hb hr hlocks hK hP hD hS hw nd_S_step_4
