set_option maxHeartbeats 4000000 in
set_option maxRecDepth 100000 in
theorem c_S_continueAt (l : Launch) (D : va_G) (h : Nat → Nat) (cA : Nat → ClassId) (u : St) (a1 : Int32) (F : St) (hw : f_S_continueAt a1 u = F) : MV nwS vwCl l ny_S_continueAt nw_S_continueAt ({ frames := 0, cells := 0, slots := 0, locals := 0 }) D (tyI cA) (wSC h cA) ([.ref (h 0), .int a1] : List Value) u F := by
  refine my_in (gw := GW) (cc := nc_S_continueAt) (maxL := 2) (ret := none) (Qc := fun A => QV vwCl D (tyI cA) (wSC h cA) F A) (by decide) rfl (Nat.le_of_ble_eq_true rfl) ?_
  intro p e s m below meth c A H locs ls hx hb hml hr hts hown hlocks hK hN hA hP hD hS hl
  have hown : s.vm.findClass nR_S = some m.cls := hown
  have hl : lv_has ls 2 [(0, .ref (h 0)), (1, .int a1)] := hl
  unfold f_S_continueAt at hw
  refine lv_aload_n hx hb nd_S_continueAt_0 rfl (lv_at hl 0 rfl) ?_
  refine lv_iload_n hx hb nd_S_continueAt_1 rfl (lv_at hl 1 rfl) ?_
  refine va_put (D := D) (ci := 0) (v := .int a1) (ty := .int) (C := nR_S) (T := nT_S) (N := 9) hx hb hts nu_S nt_S nto_S nn_S hown hK hP hD hS 0 rfl rfl 4 (by decide) (hts _ gw_67) (fun _ h9 => h9) rfl (by decide +kernel) rfl rfl (Nat.le_of_ble_eq_true rfl) nd_S_continueAt_2 (fun H locs hP hD hS => ?_)
  have hP : va_P D vwCl (wSC h cA (sU u 0 4 a1)) H := hP
  have hD : va_D A (wSC h cA (sU u 0 4 a1)) := hD
  refine lv_aload_n hx hb nd_S_continueAt_5 rfl (lv_at hl 0 rfl) ?_
  refine lv_iload_n hx hb nd_S_continueAt_6 rfl (lv_at hl 1 rfl) ?_
  refine lv_iconst (v := (4 : Int32)) hx hb nd_S_continueAt_7 (by decide) ?_
  refine lv_iadd hx hb nd_S_continueAt_8 ?_
  refine va_put (D := D) (ci := 0) (v := .int (a1 + (4 : Int32))) (ty := .int) (C := nR_S) (T := nT_S) (N := 9) hx hb hts nu_S nt_S nto_S nn_S hown hK hP hD hS 0 rfl rfl 5 (by decide) (hts _ gw_68) (fun _ h9 => h9) rfl (by decide +kernel) rfl rfl (Nat.le_of_ble_eq_true rfl) nd_S_continueAt_9 (fun H locs hP hD hS => ?_)
  have hP : va_P D vwCl (wSC h cA (sU (sU u 0 4 a1) 0 5 (a1 + (4 : Int32)))) H := hP
  have hD : va_D A (wSC h cA (sU (sU u 0 4 a1) 0 5 (a1 + (4 : Int32)))) := hD
  refine lv_aload_n hx hb nd_S_continueAt_12 rfl (lv_at hl 0 rfl) ?_
  refine lv_iconst (v := (0 : Int32)) hx hb nd_S_continueAt_13 (by decide) ?_
  refine va_put (D := D) (ci := 0) (v := .int (zb (0 : Int32))) (ty := .boolean) (C := nR_S) (T := nT_S) (N := 9) hx hb hts nu_S nt_S nto_S nn_S hown hK hP hD hS 0 rfl rfl 6 (by decide) (hts _ gw_69) (fun _ h9 => h9) rfl (by decide +kernel) (zb_n _) (zb_f _) (Nat.le_of_ble_eq_true rfl) nd_S_continueAt_14 (fun H locs hP hD hS => ?_)
  have hP : va_P D vwCl (wSC h cA (sU (sU (sU u 0 4 a1) 0 5 (a1 + (4 : Int32))) 0 6 (0 : Int32))) H := hP
  have hD : va_D A (wSC h cA (sU (sU (sU u 0 4 a1) 0 5 (a1 + (4 : Int32))) 0 6 (0 : Int32))) := hD
  exact my_rv (u' := sU (sU (sU u 0 4 a1) 0 5 (a1 + (4 : Int32))) 0 6 (0 : Int32)) hx hb hr hlocks hK hP hD hS hw nd_S_continueAt_17
set_option maxHeartbeats 4000000 in
set_option maxRecDepth 100000 in
theorem c_S_reset (l : Launch) (D : va_G) (h : Nat → Nat) (cA : Nat → ClassId) (u : St) (F : St) (hw : f_S_reset u = some F) : MV nwS vwCl l ny_S_reset nw_S_reset ({ frames := 3, cells := 0, slots := 0, locals := 63 }) D (tyI cA) (wSC h cA) ([.ref (h 0)] : List Value) u F := by
  refine my_in (gw := GW) (cc := nc_S_reset) (maxL := 1) (ret := none) (Qc := fun A => QV vwCl D (tyI cA) (wSC h cA) F A) (by decide) rfl (Nat.le_of_ble_eq_true rfl) ?_
  intro p e s m below meth c A H locs ls hx hb hml hr hts hown hlocks hK hN hA hP hD hS hl
  have hown : s.vm.findClass nR_S = some m.cls := hown
  have hl : lv_has ls 1 [(0, .ref (h 0))] := hl
  unfold f_S_reset at hw
  refine lv_aload_n hx hb nd_S_reset_0 rfl (lv_at hl 0 rfl) ?_
  refine va_get (D := D) (ci := 0) (v := .ref (h 3)) (C := nR_S) (T := nT_S) (N := 9) hx hb hts nu_S hown hK hP 0 rfl rfl 1 (by decide) (hts _ gw_64) (fun _ h9 => h9) rfl nd_S_reset_1 ?_
  obtain ⟨u4, hq4, hw⟩ := obv_i hw
  refine my_cv (wd := wSC h cA) (F := u4) (va_runVN (As := []) (rest := []) ⟨hx, hb, hml, hown, hts⟩ (c_R_clear l D h cA u u4 hq4 _) ⟨va_cnB 0 hts (gw_in gw_87) rfl rfl rfl (hN _ nm_15) (hts _ gw_3) nh_R_clear ⟨Nat.le_of_ble_eq_true rfl, Nat.le_of_ble_eq_true rfl⟩, (hts _ gw_86), (hts _ gw_85)⟩ (my_preV nwOk hP hK hD hN (va_recv hK hP (ci := 2) (q0 := 3) rfl rfl)) rfl rfl hl.1 rfl (lv_room (Nat.le_of_ble_eq_true rfl)) nd_S_reset_4 ⟨Nat.le_of_ble_eq_true rfl, Nat.le_of_ble_eq_true rfl⟩) hD hS hA (fun H locs hP hD hS => ?_)
  refine lv_aload_n hx hb nd_S_reset_7 rfl (lv_at hl 0 rfl) ?_
  refine va_get (D := D) (ci := 0) (v := .ref (h 5)) (C := nR_S) (T := nT_S) (N := 9) hx hb hts nu_S hown hK hP 0 rfl rfl 2 (by decide) (hts _ gw_65) (fun _ h9 => h9) rfl nd_S_reset_8 ?_
  obtain ⟨u11, hq11, hw⟩ := bnv_i hw
  refine my_cv (wd := wSC h cA) (F := u11) (va_runVN (As := []) (rest := []) ⟨hx, hb, hml, hown, hts⟩ (c_C_clear l D h cA u4 u11 hq11 _) ⟨va_cnB 0 hts (gw_in gw_98) rfl rfl rfl (hN _ nm_16) (hts _ gw_4) nh_C_clear ⟨Nat.le_of_ble_eq_true rfl, Nat.le_of_ble_eq_true rfl⟩, (hts _ gw_97), (hts _ gw_96)⟩ (my_preV nwOk hP hK hD hN (va_recv hK hP (ci := 3) (q0 := 5) rfl rfl)) rfl rfl hl.1 rfl (lv_room (Nat.le_of_ble_eq_true rfl)) nd_S_reset_11 ⟨Nat.le_of_ble_eq_true rfl, Nat.le_of_ble_eq_true rfl⟩) hD hS hA (fun H locs hP hD hS => ?_)
  refine lv_aload_n hx hb nd_S_reset_14 rfl (lv_at hl 0 rfl) ?_
  refine lv_iconst (v := (0 : Int32)) hx hb nd_S_reset_15 (by decide) ?_
  obtain ⟨u16, hq16, hw⟩ := bnv_i hw
  refine my_cv (wd := wSC h cA) (F := u16) (va_runV (As := [.int (0 : Int32)]) (rest := []) ⟨hx, hb, hml, hown, hts⟩ (c_S_continueAt l D h cA u11 (0 : Int32) u16 hq16 _) ⟨callB_of 1 hts (gw_in gw_102) rfl rfl rfl (hts _ gw_1) (hts _ gw_99) nh_S_continueAt ⟨Nat.le_of_ble_eq_true rfl, Nat.le_of_ble_eq_true rfl⟩, (hts _ gw_101), (hts _ gw_100)⟩ (my_preV nwOk hP hK hD hN (va_recv hK hP (ci := 0) (q0 := 0) rfl rfl)) rfl rfl hl.1 rfl (lv_room (Nat.le_of_ble_eq_true rfl)) nd_S_reset_16 ⟨Nat.le_of_ble_eq_true rfl, Nat.le_of_ble_eq_true rfl⟩) hD hS hA (fun H locs hP hD hS => ?_)
  refine lv_aload_n hx hb nd_S_reset_19 rfl (lv_at hl 0 rfl) ?_
  refine lv_iconst (v := (0 : Int32)) hx hb nd_S_reset_20 (by decide) ?_
  refine va_put (D := D) (ci := 0) (v := .int (0 : Int32)) (ty := .int) (C := nR_S) (T := nT_S) (N := 9) hx hb hts nu_S nt_S nto_S nn_S hown hK hP hD hS 0 rfl rfl 7 (by decide) (hts _ gw_70) (fun _ h9 => h9) rfl (by decide +kernel) rfl rfl (Nat.le_of_ble_eq_true rfl) nd_S_reset_21 (fun H locs hP hD hS => ?_)
  have hP : va_P D vwCl (wSC h cA (sU u16 0 7 (0 : Int32))) H := hP
  have hD : va_D A (wSC h cA (sU u16 0 7 (0 : Int32))) := hD
  refine lv_aload_n hx hb nd_S_reset_24 rfl (lv_at hl 0 rfl) ?_
  refine lv_iconst (v := (0 : Int32)) hx hb nd_S_reset_25 (by decide) ?_
  refine va_put (D := D) (ci := 0) (v := .int (0 : Int32)) (ty := .int) (C := nR_S) (T := nT_S) (N := 9) hx hb hts nu_S nt_S nto_S nn_S hown hK hP hD hS 0 rfl rfl 8 (by decide) (hts _ gw_71) (fun _ h9 => h9) rfl (by decide +kernel) rfl rfl (Nat.le_of_ble_eq_true rfl) nd_S_reset_26 (fun H locs hP hD hS => ?_)
  have hP : va_P D vwCl (wSC h cA (sU (sU u16 0 7 (0 : Int32)) 0 8 (0 : Int32))) H := hP
  have hD : va_D A (wSC h cA (sU (sU u16 0 7 (0 : Int32)) 0 8 (0 : Int32))) := hD
  exact my_rv (u' := sU (sU u16 0 7 (0 : Int32)) 0 8 (0 : Int32)) hx hb hr hlocks hK hP hD hS (Option.some.inj hw) nd_S_reset_29
set_option maxHeartbeats 4000000 in
set_option maxRecDepth 100000 in
theorem c_S_go (l : Launch) (D : va_G) (h : Nat → Nat) (cA : Nat → ClassId) (u : St) (a1 : Int32) (F : Int32 × St) (hw : f_S_go a1 u = F) : MI nwS vwCl l ny_S_go nw_S_go ({ frames := 2, cells := 0, slots := 0, locals := 42 }) D (tyI cA) (wSC h cA) ([.ref (h 0), .int a1] : List Value) u F := by
  refine my_in (gw := GW) (cc := nc_S_go) (maxL := 3) (ret := (some .int)) (Qc := fun A => QI vwCl D (tyI cA) (wSC h cA) F A) (by decide) rfl (Nat.le_of_ble_eq_true rfl) ?_
  intro p e s m below meth c A H locs ls hx hb hml hr hts hown hlocks hK hN hA hP hD hS hl
  have hown : s.vm.findClass nR_S = some m.cls := hown
  have hl : lv_has ls 3 [(0, .ref (h 0)), (1, .int a1)] := hl
  unfold f_S_go at hw
  refine lv_aload_n hx hb nd_S_go_0 rfl (lv_at hl 0 rfl) ?_
  refine va_get (D := D) (ci := 0) (v := .int (u 0 4)) (C := nR_S) (T := nT_S) (N := 9) hx hb hts nu_S hown hK hP 0 rfl rfl 4 (by decide) (hts _ gw_67) (fun _ h9 => h9) rfl nd_S_go_1 ?_
  refine lv_istore_n (lv' := [(2, .int (u 0 4)), (0, .ref (h 0)), (1, .int a1)]) hx hb nd_S_go_4 rfl hl (by decide) rfl (fun ls hl => ?_)
  refine lv_aload_n hx hb nd_S_go_5 rfl (lv_at hl 1 rfl) ?_
  refine va_get (D := D) (ci := 0) (v := .ref (h 3)) (C := nR_S) (T := nT_S) (N := 9) hx hb hts nu_S hown hK hP 0 rfl rfl 1 (by decide) (hts _ gw_64) (fun _ h9 => h9) rfl nd_S_go_6 ?_
  obtain ⟨u9, hq9, hw⟩ := bnv_i hw
  refine my_cv (wd := wSC h cA) (F := u9) (va_runVN (As := []) (rest := []) ⟨hx, hb, hml, hown, hts⟩ (c_R_dropLoad l D h cA u u9 hq9 _) ⟨va_cnB 0 hts (gw_in gw_91) rfl rfl rfl (hN _ nm_17) (hts _ gw_3) nh_R_dropLoad ⟨Nat.le_of_ble_eq_true rfl, Nat.le_of_ble_eq_true rfl⟩, (hts _ gw_90), (hts _ gw_89)⟩ (my_preV nwOk hP hK hD hN (va_recv hK hP (ci := 2) (q0 := 3) rfl rfl)) rfl rfl hl.1 rfl (lv_room (Nat.le_of_ble_eq_true rfl)) nd_S_go_9 ⟨Nat.le_of_ble_eq_true rfl, Nat.le_of_ble_eq_true rfl⟩) hD hS hA (fun H locs hP hD hS => ?_)
  refine lv_aload_n hx hb nd_S_go_12 rfl (lv_at hl 1 rfl) ?_
  refine lv_iload_n hx hb nd_S_go_13 rfl (lv_at hl 2 rfl) ?_
  obtain ⟨u14, hq14, hw⟩ := bnv_i hw
  refine my_cv (wd := wSC h cA) (F := u14) (va_runV (As := [.int a1]) (rest := []) ⟨hx, hb, hml, hown, hts⟩ (c_S_continueAt l D h cA u9 a1 u14 hq14 _) ⟨callB_of 1 hts (gw_in gw_102) rfl rfl rfl (hts _ gw_1) (hts _ gw_99) nh_S_continueAt ⟨Nat.le_of_ble_eq_true rfl, Nat.le_of_ble_eq_true rfl⟩, (hts _ gw_101), (hts _ gw_100)⟩ (my_preV nwOk hP hK hD hN (va_recv hK hP (ci := 0) (q0 := 0) rfl rfl)) rfl rfl hl.1 rfl (lv_room (Nat.le_of_ble_eq_true rfl)) nd_S_go_14 ⟨Nat.le_of_ble_eq_true rfl, Nat.le_of_ble_eq_true rfl⟩) hD hS hA (fun H locs hP hD hS => ?_)
  refine lv_iload_n hx hb nd_S_go_17 rfl (lv_at hl 0 rfl) ?_
  exact my_ri (u' := u14) (v := u 0 4) hx hb hr hlocks hK hP hD hS hw nd_S_go_18
set_option maxHeartbeats 4000000 in
set_option maxRecDepth 100000 in
theorem c_S_status (l : Launch) (D : va_G) (h : Nat → Nat) (cA : Nat → ClassId) (u : St) (a1 : Int32) (F : Int32 × St) (hw : f_S_status a1 u = F) : MI nwS vwCl l ny_S_status nw_S_status ({ frames := 2, cells := 0, slots := 0, locals := 44 }) D (tyI cA) (wSC h cA) ([.ref (h 0), .int a1] : List Value) u F := by
  refine my_in (gw := GW) (cc := nc_S_status) (maxL := 3) (ret := (some .int)) (Qc := fun A => QI vwCl D (tyI cA) (wSC h cA) F A) (by decide) rfl (Nat.le_of_ble_eq_true rfl) ?_
  intro p e s m below meth c A H locs ls hx hb hml hr hts hown hlocks hK hN hA hP hD hS hl
  have hown : s.vm.findClass nR_S = some m.cls := hown
  have hl : lv_has ls 3 [(0, .ref (h 0)), (1, .int a1)] := hl
  unfold f_S_status at hw
  refine lv_aload_n hx hb nd_S_status_0 rfl (lv_at hl 0 rfl) ?_
  refine va_get (D := D) (ci := 0) (v := .ref (h 5)) (C := nR_S) (T := nT_S) (N := 9) hx hb hts nu_S hown hK hP 0 rfl rfl 2 (by decide) (hts _ gw_65) (fun _ h9 => h9) rfl nd_S_status_1 ?_
  refine va_getN (D := D) (ci := 3) (v := .int (u 5 0)) (C := nR_C) (T := nT_C) (N := 5) hx hb hts nu_C hown hK hP 5 rfl rfl 0 (by decide) (va_Nw.use rfl (hN _ nm_5)) (fun _ h9 => h9) rfl nd_S_status_4 ?_
  refine lv_istore_n (lv' := [(2, .int (u 5 0)), (0, .ref (h 0)), (1, .int a1)]) hx hb nd_S_status_7 rfl hl (by decide) rfl (fun ls hl => ?_)
  refine lv_aload_n hx hb nd_S_status_8 rfl (lv_at hl 1 rfl) ?_
  refine va_get (D := D) (ci := 0) (v := .ref (h 5)) (C := nR_S) (T := nT_S) (N := 9) hx hb hts nu_S hown hK hP 0 rfl rfl 2 (by decide) (hts _ gw_65) (fun _ h9 => h9) rfl nd_S_status_9 ?_
  refine lv_bipush (v := (12 : Int32)) hx hb nd_S_status_12 (by decide) ?_
  refine lv_iload_n hx hb nd_S_status_14 rfl (lv_at hl 2 rfl) ?_
  obtain ⟨u15, hq15, hw⟩ := bnv_i hw
  refine my_cv (wd := wSC h cA) (F := u15) (va_runVN (As := [.int (12 : Int32), .int a1]) (rest := []) ⟨hx, hb, hml, hown, hts⟩ (c_C_change l D h cA u (12 : Int32) a1 u15 hq15 _) ⟨va_cnB 2 hts (gw_in gw_113) rfl rfl rfl (hN _ nm_18) (hts _ gw_4) nh_C_change ⟨Nat.le_of_ble_eq_true rfl, Nat.le_of_ble_eq_true rfl⟩, (hts _ gw_112), (hts _ gw_111)⟩ (my_preV nwOk hP hK hD hN (va_recv hK hP (ci := 3) (q0 := 5) rfl rfl)) rfl rfl hl.1 rfl (lv_room (Nat.le_of_ble_eq_true rfl)) nd_S_status_15 ⟨Nat.le_of_ble_eq_true rfl, Nat.le_of_ble_eq_true rfl⟩) hD hS hA (fun H locs hP hD hS => ?_)
  refine lv_iload_n hx hb nd_S_status_18 rfl (lv_at hl 0 rfl) ?_
  exact my_ri (u' := u15) (v := u 5 0) hx hb hr hlocks hK hP hD hS hw nd_S_status_19
set_option maxHeartbeats 4000000 in
set_option maxRecDepth 100000 in
theorem c_S_valueOfT (l : Launch) (D : va_G) (h : Nat → Nat) (cA : Nat → ClassId) (u : St) (a1 : Int32) (F : Int32) (hw : f_S_valueOfT a1 u = F) : MI nwS vwCl l ny_S_valueOfT nw_S_valueOfT ({ frames := 1, cells := 0, slots := 0, locals := 21 }) D (tyI cA) (wSC h cA) ([.ref (h 0), .int a1] : List Value) u (F, u) := by
  refine my_in (gw := GW) (cc := nc_S_valueOfT) (maxL := 2) (ret := (some .int)) (Qc := fun A => QI vwCl D (tyI cA) (wSC h cA) (F, u) A) (by decide) rfl (Nat.le_of_ble_eq_true rfl) ?_
  intro p e s m below meth c A H locs ls hx hb hml hr hts hown hlocks hK hN hA hP hD hS hl
  have hown : s.vm.findClass nR_S = some m.cls := hown
  have hl : lv_has ls 2 [(0, .ref (h 0)), (1, .int a1)] := hl
  unfold f_S_valueOfT at hw
  refine lv_aload_n hx hb nd_S_valueOfT_0 rfl (lv_at hl 0 rfl) ?_
  refine va_get (D := D) (ci := 0) (v := .ref (h 3)) (C := nR_S) (T := nT_S) (N := 9) hx hb hts nu_S hown hK hP 0 rfl rfl 1 (by decide) (hts _ gw_64) (fun _ h9 => h9) rfl nd_S_valueOfT_1 ?_
  refine lv_iload_n hx hb nd_S_valueOfT_4 rfl (lv_at hl 1 rfl) ?_
  refine my_cp (F := f_S_numberT a1) (va_runS (As := [.int a1]) (rest := [.ref (h 3)]) ⟨hx, hb, hml, hown, hts⟩ (c_S_numberT l a1 _ rfl) ⟨callB_of 1 hts (gw_in gw_191) rfl rfl rfl (hts _ gw_1) (hts _ gw_189) nh_S_numberT ⟨Nat.le_of_ble_eq_true rfl, Nat.le_of_ble_eq_true rfl⟩, (hts _ gw_190)⟩ my_preP rfl rfl hl.1 rfl (lv_room (Nat.le_of_ble_eq_true rfl)) nd_S_valueOfT_5 ⟨Nat.le_of_ble_eq_true rfl, Nat.le_of_ble_eq_true rfl⟩) hP hS (fun H locs hP hS => ?_)
  refine my_ci (wd := wSC h cA) (r := f_R_valueOf (f_S_numberT a1) u) (u' := u) (va_runVN (As := [.int (f_S_numberT a1)]) (rest := []) ⟨hx, hb, hml, hown, hts⟩ (c_R_valueOf l D h cA u (f_S_numberT a1) _ rfl _) ⟨va_cnB 1 hts (gw_in gw_206) rfl rfl rfl (hN _ nm_26) (hts _ gw_3) nh_R_valueOf ⟨Nat.le_of_ble_eq_true rfl, Nat.le_of_ble_eq_true rfl⟩, (hts _ gw_205), (hts _ gw_204)⟩ (my_preV nwOk hP hK hD hN (va_recv hK hP (ci := 2) (q0 := 3) rfl rfl)) rfl rfl hl.1 rfl (lv_room (Nat.le_of_ble_eq_true rfl)) nd_S_valueOfT_8 ⟨Nat.le_of_ble_eq_true rfl, Nat.le_of_ble_eq_true rfl⟩) hD hS hA (fun H locs hP hD hS => ?_)
  exact my_ri (u' := u) (v := f_R_valueOf (f_S_numberT a1) u) hx hb hr hlocks hK hP hD hS (congrArg (fun z9 => (z9, u)) hw) nd_S_valueOfT_11
set_option maxHeartbeats 4000000 in
set_option maxRecDepth 100000 in
theorem c_S_valueOfS (l : Launch) (D : va_G) (h : Nat → Nat) (cA : Nat → ClassId) (u : St) (a1 : Int32) (F : Int32) (hw : f_S_valueOfS a1 u = F) : MI nwS vwCl l ny_S_valueOfS nw_S_valueOfS ({ frames := 1, cells := 0, slots := 0, locals := 21 }) D (tyI cA) (wSC h cA) ([.ref (h 0), .int a1] : List Value) u (F, u) := by
  refine my_in (gw := GW) (cc := nc_S_valueOfS) (maxL := 2) (ret := (some .int)) (Qc := fun A => QI vwCl D (tyI cA) (wSC h cA) (F, u) A) (by decide) rfl (Nat.le_of_ble_eq_true rfl) ?_
  intro p e s m below meth c A H locs ls hx hb hml hr hts hown hlocks hK hN hA hP hD hS hl
  have hown : s.vm.findClass nR_S = some m.cls := hown
  have hl : lv_has ls 2 [(0, .ref (h 0)), (1, .int a1)] := hl
  unfold f_S_valueOfS at hw
  refine lv_aload_n hx hb nd_S_valueOfS_0 rfl (lv_at hl 0 rfl) ?_
  refine va_get (D := D) (ci := 0) (v := .ref (h 3)) (C := nR_S) (T := nT_S) (N := 9) hx hb hts nu_S hown hK hP 0 rfl rfl 1 (by decide) (hts _ gw_64) (fun _ h9 => h9) rfl nd_S_valueOfS_1 ?_
  refine lv_iload_n hx hb nd_S_valueOfS_4 rfl (lv_at hl 1 rfl) ?_
  refine my_cp (F := f_S_numberS a1) (va_runS (As := [.int a1]) (rest := [.ref (h 3)]) ⟨hx, hb, hml, hown, hts⟩ (c_S_numberS l a1 _ rfl) ⟨callB_of 1 hts (gw_in gw_216) rfl rfl rfl (hts _ gw_1) (hts _ gw_214) nh_S_numberS ⟨Nat.le_of_ble_eq_true rfl, Nat.le_of_ble_eq_true rfl⟩, (hts _ gw_215)⟩ my_preP rfl rfl hl.1 rfl (lv_room (Nat.le_of_ble_eq_true rfl)) nd_S_valueOfS_5 ⟨Nat.le_of_ble_eq_true rfl, Nat.le_of_ble_eq_true rfl⟩) hP hS (fun H locs hP hS => ?_)
  refine my_ci (wd := wSC h cA) (r := f_R_valueOf (f_S_numberS a1) u) (u' := u) (va_runVN (As := [.int (f_S_numberS a1)]) (rest := []) ⟨hx, hb, hml, hown, hts⟩ (c_R_valueOf l D h cA u (f_S_numberS a1) _ rfl _) ⟨va_cnB 1 hts (gw_in gw_206) rfl rfl rfl (hN _ nm_26) (hts _ gw_3) nh_R_valueOf ⟨Nat.le_of_ble_eq_true rfl, Nat.le_of_ble_eq_true rfl⟩, (hts _ gw_205), (hts _ gw_204)⟩ (my_preV nwOk hP hK hD hN (va_recv hK hP (ci := 2) (q0 := 3) rfl rfl)) rfl rfl hl.1 rfl (lv_room (Nat.le_of_ble_eq_true rfl)) nd_S_valueOfS_8 ⟨Nat.le_of_ble_eq_true rfl, Nat.le_of_ble_eq_true rfl⟩) hD hS hA (fun H locs hP hD hS => ?_)
  exact my_ri (u' := u) (v := f_R_valueOf (f_S_numberS a1) u) hx hb hr hlocks hK hP hD hS (congrArg (fun z9 => (z9, u)) hw) nd_S_valueOfS_11
set_option maxHeartbeats 4000000 in
set_option maxRecDepth 100000 in
theorem c_S_give (l : Launch) (D : va_G) (h : Nat → Nat) (cA : Nat → ClassId) (u : St) (a1 : Int32) (a2 : Int32) (F : Int32 × St) (hw : f_S_give a1 a2 u = F) : MI nwS vwCl l ny_S_give nw_S_give ({ frames := 0, cells := 0, slots := 0, locals := 0 }) D (tyI cA) (wSC h cA) ([.ref (h 0), .int a1, .int a2] : List Value) u F := by
  refine my_in (gw := GW) (cc := nc_S_give) (maxL := 3) (ret := (some .int)) (Qc := fun A => QI vwCl D (tyI cA) (wSC h cA) F A) (by decide) rfl (Nat.le_of_ble_eq_true rfl) ?_
  intro p e s m below meth c A H locs ls hx hb hml hr hts hown hlocks hK hN hA hP hD hS hl
  have hown : s.vm.findClass nR_S = some m.cls := hown
  have hl : lv_has ls 3 [(0, .ref (h 0)), (1, .int a1), (2, .int a2)] := hl
  unfold f_S_give at hw
  refine lv_aload_n hx hb nd_S_give_0 rfl (lv_at hl 0 rfl) ?_
  refine va_get (D := D) (ci := 0) (v := .ref (h 6)) (C := nR_S) (T := nT_S) (N := 9) hx hb hts nu_S hown hK hP 0 rfl rfl 3 (by decide) (hts _ gw_66) (fun _ h9 => h9) rfl nd_S_give_1 ?_
  refine lv_iload_n hx hb nd_S_give_4 rfl (lv_at hl 1 rfl) ?_
  refine va_putN (D := D) (ci := 4) (v := .int a1) (ty := .int) (C := nR_O) (T := nT_O) (N := 5) hx hb hts nu_O nt_O nto_O nn_O hown hK hP hD hS 6 rfl rfl 0 (by decide) (va_Nw.use rfl (hN _ nm_10)) (fun _ h9 => h9) rfl (by decide +kernel) rfl rfl (Nat.le_of_ble_eq_true rfl) nd_S_give_5 (fun H locs hP hD hS => ?_)
  have hP : va_P D vwCl (wSC h cA (sU u 6 0 a1)) H := hP
  have hD : va_D A (wSC h cA (sU u 6 0 a1)) := hD
  refine lv_aload_n hx hb nd_S_give_8 rfl (lv_at hl 0 rfl) ?_
  refine va_get (D := D) (ci := 0) (v := .ref (h 6)) (C := nR_S) (T := nT_S) (N := 9) hx hb hts nu_S hown hK hP 0 rfl rfl 3 (by decide) (hts _ gw_66) (fun _ h9 => h9) rfl nd_S_give_9 ?_
  refine lv_iload_n hx hb nd_S_give_12 rfl (lv_at hl 2 rfl) ?_
  refine va_putN (D := D) (ci := 4) (v := .int a2) (ty := .int) (C := nR_O) (T := nT_O) (N := 5) hx hb hts nu_O nt_O nto_O nn_O hown hK hP hD hS 6 rfl rfl 1 (by decide) (va_Nw.use rfl (hN _ nm_11)) (fun _ h9 => h9) rfl (by decide +kernel) rfl rfl (Nat.le_of_ble_eq_true rfl) nd_S_give_13 (fun H locs hP hD hS => ?_)
  have hP : va_P D vwCl (wSC h cA (sU (sU u 6 0 a1) 6 1 a2)) H := hP
  have hD : va_D A (wSC h cA (sU (sU u 6 0 a1) 6 1 a2)) := hD
  refine lv_iconst (v := (-1 : Int32)) hx hb nd_S_give_16 (by decide) ?_
  exact my_ri (u' := sU (sU u 6 0 a1) 6 1 a2) (v := (-1 : Int32)) hx hb hr hlocks hK hP hD hS hw nd_S_give_17
set_option maxHeartbeats 4000000 in
set_option maxRecDepth 100000 in
theorem c_S_branchIf (l : Launch) (D : va_G) (h : Nat → Nat) (cA : Nat → ClassId) (u : St) (a1 : Int32) (a2 : Int32) (F : Int32 × St) (hw : f_S_branchIf a1 a2 u = F) : MI nwS vwCl l ny_S_branchIf nw_S_branchIf ({ frames := 0, cells := 0, slots := 0, locals := 0 }) D (tyI cA) (wSC h cA) ([.ref (h 0), .int (zb a1), .int a2] : List Value) u F := by
  refine my_in (gw := GW) (cc := nc_S_branchIf) (maxL := 3) (ret := (some .int)) (Qc := fun A => QI vwCl D (tyI cA) (wSC h cA) F A) (by decide) rfl (Nat.le_of_ble_eq_true rfl) ?_
  intro p e s m below meth c A H locs ls hx hb hml hr hts hown hlocks hK hN hA hP hD hS hl
  have hown : s.vm.findClass nR_S = some m.cls := hown
  have hl : lv_has ls 3 [(0, .ref (h 0)), (1, .int (zb a1)), (2, .int a2)] := hl
  unfold f_S_branchIf at hw
  refine lv_aload_n hx hb nd_S_branchIf_0 rfl (lv_at hl 0 rfl) ?_
  refine va_get (D := D) (ci := 0) (v := .ref (h 6)) (C := nR_S) (T := nT_S) (N := 9) hx hb hts nu_S hown hK hP 0 rfl rfl 3 (by decide) (hts _ gw_66) (fun _ h9 => h9) rfl nd_S_branchIf_1 ?_
  refine lv_iconst (v := (1 : Int32)) hx hb nd_S_branchIf_4 (by decide) ?_
  refine va_putN (D := D) (ci := 4) (v := .int (zb (1 : Int32))) (ty := .boolean) (C := nR_O) (T := nT_O) (N := 5) hx hb hts nu_O nt_O nto_O nn_O hown hK hP hD hS 6 rfl rfl 3 (by decide) (va_Nw.use rfl (hN _ nm_13)) (fun _ h9 => h9) rfl (by decide +kernel) (zb_n _) (zb_f _) (Nat.le_of_ble_eq_true rfl) nd_S_branchIf_5 (fun H locs hP hD hS => ?_)
  have hP : va_P D vwCl (wSC h cA (sU u 6 3 (1 : Int32))) H := hP
  have hD : va_D A (wSC h cA (sU u 6 3 (1 : Int32))) := hD
  refine lv_iload_n hx hb nd_S_branchIf_8 rfl (lv_at hl 1 rfl) ?_
  refine lv_if_eq (tgt := 20) hx hb nd_S_branchIf_9 (by decide) (fun h9 => ?_) (fun h9 => ?_)
  · have hw := (if_pos h9).symm.trans hw
    refine lv_iconst (v := (-1 : Int32)) hx hb nd_S_branchIf_20 (by decide) ?_
    exact my_ri (u' := sU u 6 3 (1 : Int32)) (v := (-1 : Int32)) hx hb hr hlocks hK hP hD hS hw nd_S_branchIf_21
  have hw := (if_neg h9).symm.trans hw
  refine lv_aload_n hx hb nd_S_branchIf_12 rfl (lv_at hl 0 rfl) ?_
  refine va_get (D := D) (ci := 0) (v := .ref (h 6)) (C := nR_S) (T := nT_S) (N := 9) hx hb hts nu_S hown hK hP 0 rfl rfl 3 (by decide) (hts _ gw_66) (fun _ h9 => h9) rfl nd_S_branchIf_13 ?_
  refine lv_iload_n hx hb nd_S_branchIf_16 rfl (lv_at hl 2 rfl) ?_
  refine va_putN (D := D) (ci := 4) (v := .int a2) (ty := .int) (C := nR_O) (T := nT_O) (N := 5) hx hb hts nu_O nt_O nto_O nn_O hown hK hP hD hS 6 rfl rfl 4 (by decide) (va_Nw.use rfl (hN _ nm_14)) (fun _ h9 => h9) rfl (by decide +kernel) rfl rfl (Nat.le_of_ble_eq_true rfl) nd_S_branchIf_17 (fun H locs hP hD hS => ?_)
  have hP : va_P D vwCl (wSC h cA (sU (sU u 6 3 (1 : Int32)) 6 4 a2)) H := hP
  have hD : va_D A (wSC h cA (sU (sU u 6 3 (1 : Int32)) 6 4 a2)) := hD
  refine lv_iconst (v := (-1 : Int32)) hx hb nd_S_branchIf_20 (by decide) ?_
  exact my_ri (u' := sU (sU u 6 3 (1 : Int32)) 6 4 a2) (v := (-1 : Int32)) hx hb hr hlocks hK hP hD hS hw nd_S_branchIf_21
set_option maxHeartbeats 4000000 in
set_option maxRecDepth 100000 in
theorem c_S_keepHighAndLow (l : Launch) (D : va_G) (h : Nat → Nat) (cA : Nat → ClassId) (u : St) (a1 : Int64) (F : Int32 × St) (hw : f_S_keepHighAndLow a1 u = F) : MI nwS vwCl l ny_S_keepHighAndLow nw_S_keepHighAndLow ({ frames := 1, cells := 0, slots := 0, locals := 22 }) D (tyI cA) (wSC h cA) ([.ref (h 0), .long a1] : List Value) u F := by
  refine my_in (gw := GW) (cc := nc_S_keepHighAndLow) (maxL := 3) (ret := (some .int)) (Qc := fun A => QI vwCl D (tyI cA) (wSC h cA) F A) (by decide) rfl (Nat.le_of_ble_eq_true rfl) ?_
  intro p e s m below meth c A H locs ls hx hb hml hr hts hown hlocks hK hN hA hP hD hS hl
  have hown : s.vm.findClass nR_S = some m.cls := hown
  have hl : lv_has ls 3 [(0, .ref (h 0)), (1, .long a1)] := hl
  unfold f_S_keepHighAndLow at hw
  refine lv_aload_n hx hb nd_S_keepHighAndLow_0 rfl (lv_at hl 0 rfl) ?_
  refine va_get (D := D) (ci := 0) (v := .ref (h 3)) (C := nR_S) (T := nT_S) (N := 9) hx hb hts nu_S hown hK hP 0 rfl rfl 1 (by decide) (hts _ gw_64) (fun _ h9 => h9) rfl nd_S_keepHighAndLow_1 ?_
  refine lv_bipush (v := (32 : Int32)) hx hb nd_S_keepHighAndLow_4 (by decide) ?_
  refine lv_lload_n hx hb nd_S_keepHighAndLow_6 rfl (lv_at hl 1 rfl) ?_
  refine lv_bipush (v := (32 : Int32)) hx hb nd_S_keepHighAndLow_7 (by decide) ?_
  refine lv_lshr (v := a1 >>> ((32 : Int32).toInt64 &&& 63)) hx hb nd_S_keepHighAndLow_9 rfl ?_
  refine lv_l2i (v := (a1 >>> ((32 : Int32).toInt64 &&& 63)).toInt32) hx hb nd_S_keepHighAndLow_10 rfl ?_
  obtain ⟨u11, hq11, hw⟩ := bnv_i hw
  refine my_cv (wd := wSC h cA) (F := u11) (va_runVN (As := [.int (32 : Int32), .int ((a1 >>> ((32 : Int32).toInt64 &&& 63)).toInt32)]) (rest := []) ⟨hx, hb, hml, hown, hts⟩ (c_R_change l D h cA u (32 : Int32) ((a1 >>> ((32 : Int32).toInt64 &&& 63)).toInt32) u11 hq11 _) ⟨va_cnB 2 hts (gw_in gw_143) rfl rfl rfl (hN _ nm_27) (hts _ gw_3) nh_R_change ⟨Nat.le_of_ble_eq_true rfl, Nat.le_of_ble_eq_true rfl⟩, (hts _ gw_142), (hts _ gw_141)⟩ (my_preV nwOk hP hK hD hN (va_recv hK hP (ci := 2) (q0 := 3) rfl rfl)) rfl rfl hl.1 rfl (lv_room (Nat.le_of_ble_eq_true rfl)) nd_S_keepHighAndLow_11 ⟨Nat.le_of_ble_eq_true rfl, Nat.le_of_ble_eq_true rfl⟩) hD hS hA (fun H locs hP hD hS => ?_)
  refine lv_aload_n hx hb nd_S_keepHighAndLow_14 rfl (lv_at hl 0 rfl) ?_
  refine va_get (D := D) (ci := 0) (v := .ref (h 3)) (C := nR_S) (T := nT_S) (N := 9) hx hb hts nu_S hown hK hP 0 rfl rfl 1 (by decide) (hts _ gw_64) (fun _ h9 => h9) rfl nd_S_keepHighAndLow_15 ?_
  refine lv_bipush (v := (33 : Int32)) hx hb nd_S_keepHighAndLow_18 (by decide) ?_
  refine lv_lload_n hx hb nd_S_keepHighAndLow_20 rfl (lv_at hl 1 rfl) ?_
  refine lv_l2i (v := a1.toInt32) hx hb nd_S_keepHighAndLow_21 rfl ?_
  obtain ⟨u22, hq22, hw⟩ := bnv_i hw
  refine my_cv (wd := wSC h cA) (F := u22) (va_runVN (As := [.int (33 : Int32), .int a1.toInt32]) (rest := []) ⟨hx, hb, hml, hown, hts⟩ (c_R_change l D h cA u11 (33 : Int32) a1.toInt32 u22 hq22 _) ⟨va_cnB 2 hts (gw_in gw_143) rfl rfl rfl (hN _ nm_27) (hts _ gw_3) nh_R_change ⟨Nat.le_of_ble_eq_true rfl, Nat.le_of_ble_eq_true rfl⟩, (hts _ gw_142), (hts _ gw_141)⟩ (my_preV nwOk hP hK hD hN (va_recv hK hP (ci := 2) (q0 := 3) rfl rfl)) rfl rfl hl.1 rfl (lv_room (Nat.le_of_ble_eq_true rfl)) nd_S_keepHighAndLow_22 ⟨Nat.le_of_ble_eq_true rfl, Nat.le_of_ble_eq_true rfl⟩) hD hS hA (fun H locs hP hD hS => ?_)
  refine lv_iconst (v := (-1 : Int32)) hx hb nd_S_keepHighAndLow_25 (by decide) ?_
  exact my_ri (u' := u22) (v := (-1 : Int32)) hx hb hr hlocks hK hP hD hS hw nd_S_keepHighAndLow_26
set_option maxHeartbeats 4000000 in
set_option maxRecDepth 100000 in
theorem c_S_giveIfExact (l : Launch) (D : va_G) (h : Nat → Nat) (cA : Nat → ClassId) (u : St) (a1 : Int32) (a2 : Int64) (F : Int32 × St) (hw : f_S_giveIfExact a1 a2 u = F) : MI nwS vwCl l ny_S_giveIfExact nw_S_giveIfExact ({ frames := 1, cells := 0, slots := 0, locals := 22 }) D (tyI cA) (wSC h cA) ([.ref (h 0), .int a1, .long a2] : List Value) u F := by
  refine my_in (gw := GW) (cc := nc_S_giveIfExact) (maxL := 4) (ret := (some .int)) (Qc := fun A => QI vwCl D (tyI cA) (wSC h cA) F A) (by decide) rfl (Nat.le_of_ble_eq_true rfl) ?_
  intro p e s m below meth c A H locs ls hx hb hml hr hts hown hlocks hK hN hA hP hD hS hl
  have hown : s.vm.findClass nR_S = some m.cls := hown
  have hl : lv_has ls 4 [(0, .ref (h 0)), (1, .int a1), (2, .long a2)] := hl
  unfold f_S_giveIfExact at hw
  refine lv_lload_n hx hb nd_S_giveIfExact_0 rfl (lv_at hl 2 rfl) ?_
  refine lv_lload_n hx hb nd_S_giveIfExact_1 rfl (lv_at hl 2 rfl) ?_
  refine lv_l2i (v := a2.toInt32) hx hb nd_S_giveIfExact_2 rfl ?_
  refine lv_i2l (v := a2.toInt32.toInt64) hx hb nd_S_giveIfExact_3 rfl ?_
  refine W.lcmp hx hb nd_S_giveIfExact_4 ?_
  refine lv_if_eq (tgt := 11) hx hb nd_S_giveIfExact_5 (by decide) (fun h5 => ?_) (fun h5 => ?_)
  · have hw := (if_pos h5).symm.trans hw
    refine lv_aload_n hx hb nd_S_giveIfExact_11 rfl (lv_at hl 0 rfl) ?_
    refine lv_iload_n hx hb nd_S_giveIfExact_12 rfl (lv_at hl 1 rfl) ?_
    refine lv_lload_n hx hb nd_S_giveIfExact_13 rfl (lv_at hl 2 rfl) ?_
    refine lv_l2i (v := a2.toInt32) hx hb nd_S_giveIfExact_14 rfl ?_
    obtain ⟨r15, u15, hq15, hw⟩ := bnd_i hw
    refine my_ci (wd := wSC h cA) (r := r15) (u' := u15) (va_runV (As := [.int a1, .int a2.toInt32]) (rest := []) ⟨hx, hb, hml, hown, hts⟩ (c_S_give l D h cA u a1 a2.toInt32 (r15, u15) hq15 _) ⟨callB_of 2 hts (gw_in gw_223) rfl rfl rfl (hts _ gw_1) (hts _ gw_220) nh_S_give ⟨Nat.le_of_ble_eq_true rfl, Nat.le_of_ble_eq_true rfl⟩, (hts _ gw_222), (hts _ gw_221)⟩ (my_preV nwOk hP hK hD hN (va_recv hK hP (ci := 0) (q0 := 0) rfl rfl)) rfl rfl hl.1 rfl (lv_room (Nat.le_of_ble_eq_true rfl)) nd_S_giveIfExact_15 ⟨Nat.le_of_ble_eq_true rfl, Nat.le_of_ble_eq_true rfl⟩) hD hS hA (fun H locs hP hD hS => ?_)
    exact my_ri (u' := u15) (v := r15) hx hb hr hlocks hK hP hD hS hw nd_S_giveIfExact_18
  have hw := (if_neg h5).symm.trans hw
  refine lv_bipush (v := (12 : Int32)) hx hb nd_S_giveIfExact_8 (by decide) ?_
  exact my_ri (u' := u) (v := (12 : Int32)) hx hb hr hlocks hK hP hD hS hw nd_S_giveIfExact_10
set_option maxHeartbeats 4000000 in
set_option maxRecDepth 100000 in
theorem c_S_giveTruth (l : Launch) (D : va_G) (h : Nat → Nat) (cA : Nat → ClassId) (u : St) (a1 : Int32) (a2 : Int32) (F : Int32 × St) (hw : f_S_giveTruth a1 a2 u = F) : MI nwS vwCl l ny_S_giveTruth nw_S_giveTruth ({ frames := 1, cells := 0, slots := 0, locals := 22 }) D (tyI cA) (wSC h cA) ([.ref (h 0), .int a1, .int (zb a2)] : List Value) u F := by
  refine my_in (gw := GW) (cc := nc_S_giveTruth) (maxL := 3) (ret := (some .int)) (Qc := fun A => QI vwCl D (tyI cA) (wSC h cA) F A) (by decide) rfl (Nat.le_of_ble_eq_true rfl) ?_
  intro p e s m below meth c A H locs ls hx hb hml hr hts hown hlocks hK hN hA hP hD hS hl
  have hown : s.vm.findClass nR_S = some m.cls := hown
  have hl : lv_has ls 3 [(0, .ref (h 0)), (1, .int a1), (2, .int (zb a2))] := hl
  have J11 : ∀ (y0 : Int32) (y1 : Int32) (u : St) (H : Heap) (locs : List Loc) (ls : Array Slot), va_P D vwCl (wSC h cA u) H → va_D A (wSC h cA u) → va_S A s.heap H locs → lv_has ls 3 [] → f_S_giveTruth_b11 y0 y1 u = F →
      W p l e (headSpec nw_S_giveTruth ({ frames := 1, cells := 0, slots := 0, locals := 22 })).room s m ([.ref (h 0), .int a1, .int (zb a2)] : List Value).toArray below meth c H locs 0 0 (MQ below (QI vwCl D (tyI cA) (wSC h cA) F A) ([.ref (h 0), .int a1, .int (zb a2)] : List Value).toArray s 0 0 A) (F0 m 11 ls [.int y0, .int y1, .ref (h 0)]) := by
    intro y0 y1 u H locs ls hP hD hS hl hw
    unfold f_S_giveTruth_b11 at hw
    obtain ⟨r11, u11, hq11, hw⟩ := bnd_i hw
    refine my_ci (wd := wSC h cA) (r := r11) (u' := u11) (va_runV (As := [.int y1, .int y0]) (rest := []) ⟨hx, hb, hml, hown, hts⟩ (c_S_give l D h cA u y1 y0 (r11, u11) hq11 _) ⟨callB_of 2 hts (gw_in gw_223) rfl rfl rfl (hts _ gw_1) (hts _ gw_220) nh_S_give ⟨Nat.le_of_ble_eq_true rfl, Nat.le_of_ble_eq_true rfl⟩, (hts _ gw_222), (hts _ gw_221)⟩ (my_preV nwOk hP hK hD hN (va_recv hK hP (ci := 0) (q0 := 0) rfl rfl)) rfl rfl hl.1 rfl (lv_room (Nat.le_of_ble_eq_true rfl)) nd_S_giveTruth_11 ⟨Nat.le_of_ble_eq_true rfl, Nat.le_of_ble_eq_true rfl⟩) hD hS hA (fun H locs hP hD hS => ?_)
    exact my_ri (u' := u11) (v := r11) hx hb hr hlocks hK hP hD hS hw nd_S_giveTruth_14
  unfold f_S_giveTruth at hw
  refine lv_aload_n hx hb nd_S_giveTruth_0 rfl (lv_at hl 0 rfl) ?_
  refine lv_iload_n hx hb nd_S_giveTruth_1 rfl (lv_at hl 1 rfl) ?_
  refine lv_iload_n hx hb nd_S_giveTruth_2 rfl (lv_at hl 2 rfl) ?_
  refine lv_if_eq (tgt := 10) hx hb nd_S_giveTruth_3 (by decide) (fun h3 => ?_) (fun h3 => ?_)
  · have hw := (if_pos h3).symm.trans hw
    refine lv_iconst (v := (0 : Int32)) hx hb nd_S_giveTruth_10 (by decide) ?_
    exact J11 (0 : Int32) a1 u H locs ls hP hD hS (lv_sub hl [] rfl) hw
  have hw := (if_neg h3).symm.trans hw
  refine lv_iconst (v := (1 : Int32)) hx hb nd_S_giveTruth_6 (by decide) ?_
  refine lv_goto (tgt := 11) hx hb nd_S_giveTruth_7 (by decide) ?_
  exact J11 (1 : Int32) a1 u H locs ls hP hD hS (lv_sub hl [] rfl) hw
set_option maxHeartbeats 4000000 in
set_option maxRecDepth 100000 in
theorem c_S_nearTarget (l : Launch) (D : va_G) (h : Nat → Nat) (cA : Nat → ClassId) (u : St) (a1 : Int32) (F : Int32) (hw : f_S_nearTarget a1 u = F) : MI nwS vwCl l ny_S_nearTarget nw_S_nearTarget ({ frames := 1, cells := 0, slots := 0, locals := 20 }) D (tyI cA) (wSC h cA) ([.ref (h 0), .int a1] : List Value) u (F, u) := by
  refine my_in (gw := GW) (cc := nc_S_nearTarget) (maxL := 2) (ret := (some .int)) (Qc := fun A => QI vwCl D (tyI cA) (wSC h cA) (F, u) A) (by decide) rfl (Nat.le_of_ble_eq_true rfl) ?_
  intro p e s m below meth c A H locs ls hx hb hml hr hts hown hlocks hK hN hA hP hD hS hl
  have hown : s.vm.findClass nR_S = some m.cls := hown
  have hl : lv_has ls 2 [(0, .ref (h 0)), (1, .int a1)] := hl
  unfold f_S_nearTarget at hw
  refine lv_aload_n hx hb nd_S_nearTarget_0 rfl (lv_at hl 0 rfl) ?_
  refine va_get (D := D) (ci := 0) (v := .int (u 0 4)) (C := nR_S) (T := nT_S) (N := 9) hx hb hts nu_S hown hK hP 0 rfl rfl 4 (by decide) (hts _ gw_67) (fun _ h9 => h9) rfl nd_S_nearTarget_1 ?_
  refine lv_iconst (v := (4 : Int32)) hx hb nd_S_nearTarget_4 (by decide) ?_
  refine lv_iadd hx hb nd_S_nearTarget_5 ?_
  refine lv_iconst (v := (4 : Int32)) hx hb nd_S_nearTarget_6 (by decide) ?_
  refine lv_iload_n hx hb nd_S_nearTarget_7 rfl (lv_at hl 1 rfl) ?_
  refine my_cp (F := f_S_numberI a1) (va_runS (As := [.int a1]) (rest := [.int (4 : Int32), .int ((u 0 4) + (4 : Int32))]) ⟨hx, hb, hml, hown, hts⟩ (c_S_numberI l a1 _ rfl) ⟨callB_of 1 hts (gw_in gw_280) rfl rfl rfl (hts _ gw_1) (hts _ gw_278) nh_S_numberI ⟨Nat.le_of_ble_eq_true rfl, Nat.le_of_ble_eq_true rfl⟩, (hts _ gw_279)⟩ my_preP rfl rfl hl.1 rfl (lv_room (Nat.le_of_ble_eq_true rfl)) nd_S_nearTarget_8 ⟨Nat.le_of_ble_eq_true rfl, Nat.le_of_ble_eq_true rfl⟩) hP hS (fun H locs hP hS => ?_)
  refine lv_imul hx hb nd_S_nearTarget_11 ?_
  refine lv_iadd hx hb nd_S_nearTarget_12 ?_
  exact my_ri (u' := u) (v := ((u 0 4) + (4 : Int32)) + ((4 : Int32) * (f_S_numberI a1))) hx hb hr hlocks hK hP hD hS (congrArg (fun z9 => (z9, u)) hw) nd_S_nearTarget_13
set_option maxHeartbeats 4000000 in
set_option maxRecDepth 100000 in
theorem c_S_farTarget (l : Launch) (D : va_G) (h : Nat → Nat) (cA : Nat → ClassId) (u : St) (a1 : Int32) (F : Int32) (hw : f_S_farTarget a1 u = F) : MI nwS vwCl l ny_S_farTarget nw_S_farTarget ({ frames := 0, cells := 0, slots := 0, locals := 0 }) D (tyI cA) (wSC h cA) ([.ref (h 0), .int a1] : List Value) u (F, u) := by
  refine my_in (gw := GW) (cc := nc_S_farTarget) (maxL := 2) (ret := (some .int)) (Qc := fun A => QI vwCl D (tyI cA) (wSC h cA) (F, u) A) (by decide) rfl (Nat.le_of_ble_eq_true rfl) ?_
  intro p e s m below meth c A H locs ls hx hb hml hr hts hown hlocks hK hN hA hP hD hS hl
  have hown : s.vm.findClass nR_S = some m.cls := hown
  have hl : lv_has ls 2 [(0, .ref (h 0)), (1, .int a1)] := hl
  unfold f_S_farTarget at hw
  refine lv_aload_n hx hb nd_S_farTarget_0 rfl (lv_at hl 0 rfl) ?_
  refine va_get (D := D) (ci := 0) (v := .int (u 0 4)) (C := nR_S) (T := nT_S) (N := 9) hx hb hts nu_S hown hK hP 0 rfl rfl 4 (by decide) (hts _ gw_67) (fun _ h9 => h9) rfl nd_S_farTarget_1 ?_
  refine lv_iconst (v := (4 : Int32)) hx hb nd_S_farTarget_4 (by decide) ?_
  refine lv_iadd hx hb nd_S_farTarget_5 ?_
  refine lv_ldcw (own := nR_S) (v := (-268435456 : Int32)) hx hb hown (hts _ gw_289) nd_S_farTarget_6 ?_
  refine lv_iand hx hb nd_S_farTarget_9 ?_
  refine lv_iload_n hx hb nd_S_farTarget_10 rfl (lv_at hl 1 rfl) ?_
  refine lv_iconst (v := (2 : Int32)) hx hb nd_S_farTarget_11 (by decide) ?_
  refine lv_ishl hx hb nd_S_farTarget_12 ?_
  refine lv_ldcw (own := nR_S) (v := (268435455 : Int32)) hx hb hown (hts _ gw_290) nd_S_farTarget_13 ?_
  refine lv_iand hx hb nd_S_farTarget_16 ?_
  refine lv_ior hx hb nd_S_farTarget_17 ?_
  exact my_ri (u' := u) (v := (((u 0 4) + (4 : Int32)) &&& (-268435456 : Int32)) ||| ((a1 <<< ((2 : Int32) &&& 31)) &&& (268435455 : Int32))) hx hb hr hlocks hK hP hD hS (congrArg (fun z9 => (z9, u)) hw) nd_S_farTarget_18
set_option maxHeartbeats 4000000 in
set_option maxRecDepth 100000 in
theorem c_S_giveLate (l : Launch) (D : va_G) (h : Nat → Nat) (cA : Nat → ClassId) (u : St) (a1 : Int32) (a2 : Int32) (F : Int32 × St) (hw : f_S_giveLate a1 a2 u = F) : MI nwS vwCl l ny_S_giveLate nw_S_giveLate ({ frames := 1, cells := 0, slots := 0, locals := 22 }) D (tyI cA) (wSC h cA) ([.ref (h 0), .int a1, .int a2] : List Value) u F := by
  refine my_in (gw := GW) (cc := nc_S_giveLate) (maxL := 3) (ret := (some .int)) (Qc := fun A => QI vwCl D (tyI cA) (wSC h cA) F A) (by decide) rfl (Nat.le_of_ble_eq_true rfl) ?_
  intro p e s m below meth c A H locs ls hx hb hml hr hts hown hlocks hK hN hA hP hD hS hl
  have hown : s.vm.findClass nR_S = some m.cls := hown
  have hl : lv_has ls 3 [(0, .ref (h 0)), (1, .int a1), (2, .int a2)] := hl
  unfold f_S_giveLate at hw
  refine lv_aload_n hx hb nd_S_giveLate_0 rfl (lv_at hl 0 rfl) ?_
  refine va_get (D := D) (ci := 0) (v := .ref (h 6)) (C := nR_S) (T := nT_S) (N := 9) hx hb hts nu_S hown hK hP 0 rfl rfl 3 (by decide) (hts _ gw_66) (fun _ h9 => h9) rfl nd_S_giveLate_1 ?_
  refine lv_iconst (v := (1 : Int32)) hx hb nd_S_giveLate_4 (by decide) ?_
  refine va_putN (D := D) (ci := 4) (v := .int (zb (1 : Int32))) (ty := .boolean) (C := nR_O) (T := nT_O) (N := 5) hx hb hts nu_O nt_O nto_O nn_O hown hK hP hD hS 6 rfl rfl 2 (by decide) (va_Nw.use rfl (hN _ nm_12)) (fun _ h9 => h9) rfl (by decide +kernel) (zb_n _) (zb_f _) (Nat.le_of_ble_eq_true rfl) nd_S_giveLate_5 (fun H locs hP hD hS => ?_)
  have hP : va_P D vwCl (wSC h cA (sU u 6 2 (1 : Int32))) H := hP
  have hD : va_D A (wSC h cA (sU u 6 2 (1 : Int32))) := hD
  refine lv_aload_n hx hb nd_S_giveLate_8 rfl (lv_at hl 0 rfl) ?_
  refine lv_iload_n hx hb nd_S_giveLate_9 rfl (lv_at hl 1 rfl) ?_
  refine lv_iload_n hx hb nd_S_giveLate_10 rfl (lv_at hl 2 rfl) ?_
  obtain ⟨r11, u11, hq11, hw⟩ := bnd_i hw
  refine my_ci (wd := wSC h cA) (r := r11) (u' := u11) (va_runV (As := [.int a1, .int a2]) (rest := []) ⟨hx, hb, hml, hown, hts⟩ (c_S_give l D h cA (sU u 6 2 (1 : Int32)) a1 a2 (r11, u11) hq11 _) ⟨callB_of 2 hts (gw_in gw_223) rfl rfl rfl (hts _ gw_1) (hts _ gw_220) nh_S_give ⟨Nat.le_of_ble_eq_true rfl, Nat.le_of_ble_eq_true rfl⟩, (hts _ gw_222), (hts _ gw_221)⟩ (my_preV nwOk hP hK hD hN (va_recv hK hP (ci := 0) (q0 := 0) rfl rfl)) rfl rfl hl.1 rfl (lv_room (Nat.le_of_ble_eq_true rfl)) nd_S_giveLate_11 ⟨Nat.le_of_ble_eq_true rfl, Nat.le_of_ble_eq_true rfl⟩) hD hS hA (fun H locs hP hD hS => ?_)
  exact my_ri (u' := u11) (v := r11) hx hb hr hlocks hK hP hD hS hw nd_S_giveLate_14
set_option maxHeartbeats 4000000 in
set_option maxRecDepth 100000 in
theorem c_S_addressOf (l : Launch) (D : va_G) (h : Nat → Nat) (cA : Nat → ClassId) (u : St) (a1 : Int32) (F : Int32) (hw : f_S_addressOf a1 u = F) : MI nwS vwCl l ny_S_addressOf nw_S_addressOf ({ frames := 2, cells := 0, slots := 0, locals := 42 }) D (tyI cA) (wSC h cA) ([.ref (h 0), .int a1] : List Value) u (F, u) := by
  refine my_in (gw := GW) (cc := nc_S_addressOf) (maxL := 2) (ret := (some .int)) (Qc := fun A => QI vwCl D (tyI cA) (wSC h cA) (F, u) A) (by decide) rfl (Nat.le_of_ble_eq_true rfl) ?_
  intro p e s m below meth c A H locs ls hx hb hml hr hts hown hlocks hK hN hA hP hD hS hl
  have hown : s.vm.findClass nR_S = some m.cls := hown
  have hl : lv_has ls 2 [(0, .ref (h 0)), (1, .int a1)] := hl
  unfold f_S_addressOf at hw
  refine lv_aload_n hx hb nd_S_addressOf_0 rfl (lv_at hl 0 rfl) ?_
  refine lv_iload_n hx hb nd_S_addressOf_1 rfl (lv_at hl 1 rfl) ?_
  refine my_ci (wd := wSC h cA) (r := f_S_valueOfS a1 u) (u' := u) (va_runV (As := [.int a1]) (rest := []) ⟨hx, hb, hml, hown, hts⟩ (c_S_valueOfS l D h cA u a1 _ rfl _) ⟨callB_of 1 hts (gw_in gw_213) rfl rfl rfl (hts _ gw_1) (hts _ gw_210) nh_S_valueOfS ⟨Nat.le_of_ble_eq_true rfl, Nat.le_of_ble_eq_true rfl⟩, (hts _ gw_212), (hts _ gw_211)⟩ (my_preV nwOk hP hK hD hN (va_recv hK hP (ci := 0) (q0 := 0) rfl rfl)) rfl rfl hl.1 rfl (lv_room (Nat.le_of_ble_eq_true rfl)) nd_S_addressOf_2 ⟨Nat.le_of_ble_eq_true rfl, Nat.le_of_ble_eq_true rfl⟩) hD hS hA (fun H locs hP hD hS => ?_)
  refine lv_iload_n hx hb nd_S_addressOf_5 rfl (lv_at hl 1 rfl) ?_
  refine my_cp (F := f_S_numberI a1) (va_runS (As := [.int a1]) (rest := [.int (f_S_valueOfS a1 u)]) ⟨hx, hb, hml, hown, hts⟩ (c_S_numberI l a1 _ rfl) ⟨callB_of 1 hts (gw_in gw_280) rfl rfl rfl (hts _ gw_1) (hts _ gw_278) nh_S_numberI ⟨Nat.le_of_ble_eq_true rfl, Nat.le_of_ble_eq_true rfl⟩, (hts _ gw_279)⟩ my_preP rfl rfl hl.1 rfl (lv_room (Nat.le_of_ble_eq_true rfl)) nd_S_addressOf_6 ⟨Nat.le_of_ble_eq_true rfl, Nat.le_of_ble_eq_true rfl⟩) hP hS (fun H locs hP hS => ?_)
  refine lv_iadd hx hb nd_S_addressOf_9 ?_
  exact my_ri (u' := u) (v := (f_S_valueOfS a1 u) + (f_S_numberI a1)) hx hb hr hlocks hK hP hD hS (congrArg (fun z9 => (z9, u)) hw) nd_S_addressOf_10
set_option maxHeartbeats 4000000 in
set_option maxRecDepth 100000 in
theorem c_S_faultOfData (l : Launch) (D : va_G) (h : Nat → Nat) (cA : Nat → ClassId) (u : St) (a1 : Int32) (a2 : Int32) (a3 : Int32) (F : Int32 × St) (hw : f_S_faultOfData a1 a2 a3 u = F) : MI nwS vwCl l ny_S_faultOfData nw_S_faultOfData ({ frames := 2, cells := 0, slots := 0, locals := 41 }) D (tyI cA) (wSC h cA) ([.ref (h 0), .int a1, .int a2, .int a3] : List Value) u F := by
  refine my_in (gw := GW) (cc := nc_S_faultOfData) (maxL := 4) (ret := (some .int)) (Qc := fun A => QI vwCl D (tyI cA) (wSC h cA) F A) (by decide) rfl (Nat.le_of_ble_eq_true rfl) ?_
  intro p e s m below meth c A H locs ls hx hb hml hr hts hown hlocks hK hN hA hP hD hS hl
  have hown : s.vm.findClass nR_S = some m.cls := hown
  have hl : lv_has ls 4 [(0, .ref (h 0)), (1, .int a1), (2, .int a2), (3, .int a3)] := hl
  have J19 : ∀ (x1 : Int32) (x3 : Int32) (u : St) (H : Heap) (locs : List Loc) (ls : Array Slot), va_P D vwCl (wSC h cA u) H → va_D A (wSC h cA u) → va_S A s.heap H locs → lv_has ls 4 [(0, .ref (h 0)), (1, .int x1), (3, .int x3)] → f_S_faultOfData_b19 x1 x3 u = F →
      W p l e (headSpec nw_S_faultOfData ({ frames := 2, cells := 0, slots := 0, locals := 41 })).room s m ([.ref (h 0), .int a1, .int a2, .int a3] : List Value).toArray below meth c H locs 0 0 (MQ below (QI vwCl D (tyI cA) (wSC h cA) F A) ([.ref (h 0), .int a1, .int a2, .int a3] : List Value).toArray s 0 0 A) (F0 m 19 ls []) := by
    intro x1 x3 u H locs ls hP hD hS hl hw
    unfold f_S_faultOfData_b19 at hw
    refine lv_aload_n hx hb nd_S_faultOfData_19 rfl (lv_at hl 0 rfl) ?_
    refine va_get (D := D) (ci := 0) (v := .ref (h 5)) (C := nR_S) (T := nT_S) (N := 9) hx hb hts nu_S hown hK hP 0 rfl rfl 2 (by decide) (hts _ gw_65) (fun _ h9 => h9) rfl nd_S_faultOfData_20 ?_
    refine lv_iload_n hx hb nd_S_faultOfData_23 rfl (lv_at hl 1 rfl) ?_
    refine va_putN (D := D) (ci := 3) (v := .int x1) (ty := .int) (C := nR_C) (T := nT_C) (N := 5) hx hb hts nu_C nt_C nto_C nn_C hown hK hP hD hS 5 rfl rfl 4 (by decide) (va_Nw.use rfl (hN _ nm_8)) (fun _ h9 => h9) rfl (by decide +kernel) rfl rfl (Nat.le_of_ble_eq_true rfl) nd_S_faultOfData_24 (fun H locs hP hD hS => ?_)
    have hP : va_P D vwCl (wSC h cA (sU u 5 4 x1)) H := hP
    have hD : va_D A (wSC h cA (sU u 5 4 x1)) := hD
    refine lv_iload_n hx hb nd_S_faultOfData_27 rfl (lv_at hl 2 rfl) ?_
    exact my_ri (u' := sU u 5 4 x1) (v := x3) hx hb hr hlocks hK hP hD hS hw nd_S_faultOfData_28
  unfold f_S_faultOfData at hw
  refine lv_iload_n hx hb nd_S_faultOfData_0 rfl (lv_at hl 1 rfl) ?_
  refine lv_iload_n hx hb nd_S_faultOfData_1 rfl (lv_at hl 2 rfl) ?_
  refine lv_iconst (v := (1 : Int32)) hx hb nd_S_faultOfData_2 (by decide) ?_
  refine lv_isub hx hb nd_S_faultOfData_3 ?_
  refine lv_iand hx hb nd_S_faultOfData_4 ?_
  refine lv_if_ne (tgt := 19) hx hb nd_S_faultOfData_5 (by decide) (fun h5 => ?_) (fun h5 => ?_)
  · have hw := (if_neg h5).symm.trans hw
    exact J19 a1 a3 u H locs ls hP hD hS (lv_sub hl [0, 1, 3] rfl) hw
  have hw := (if_pos h5).symm.trans hw
  refine lv_aload_n hx hb nd_S_faultOfData_8 rfl (lv_at hl 0 rfl) ?_
  refine va_get (D := D) (ci := 0) (v := .ref (h 5)) (C := nR_S) (T := nT_S) (N := 9) hx hb hts nu_S hown hK hP 0 rfl rfl 2 (by decide) (hts _ gw_65) (fun _ h9 => h9) rfl nd_S_faultOfData_9 ?_
  refine lv_iload_n hx hb nd_S_faultOfData_12 rfl (lv_at hl 1 rfl) ?_
  refine my_ci (wd := wSC h cA) (r := zb (f_C_forbids a1 u)) (u' := u) (va_runVN (As := [.int a1]) (rest := []) ⟨hx, hb, hml, hown, hts⟩ (c_C_forbids l D h cA u a1 _ rfl _) ⟨va_cnB 1 hts (gw_in gw_155) rfl rfl rfl (hN _ nm_23) (hts _ gw_4) nh_C_forbids ⟨Nat.le_of_ble_eq_true rfl, Nat.le_of_ble_eq_true rfl⟩, (hts _ gw_154), (hts _ gw_153)⟩ (my_preV nwOk hP hK hD hN (va_recv hK hP (ci := 3) (q0 := 5) rfl rfl)) rfl rfl hl.1 rfl (lv_room (Nat.le_of_ble_eq_true rfl)) nd_S_faultOfData_13 ⟨Nat.le_of_ble_eq_true rfl, Nat.le_of_ble_eq_true rfl⟩) hD hS hA (fun H locs hP hD hS => ?_)
  refine lv_if_eq (tgt := 29) hx hb nd_S_faultOfData_16 (by decide) (fun h16 => ?_) (fun h16 => ?_)
  · have hw := (if_pos h16).symm.trans hw
    refine lv_iload_n hx hb nd_S_faultOfData_29 rfl (lv_at hl 1 rfl) ?_
    refine lv_ldc (own := nR_S) (v := (536870911 : Int32)) hx hb hown (hts _ gw_160) nd_S_faultOfData_30 ?_
    refine lv_iand hx hb nd_S_faultOfData_32 ?_
    refine my_cp (F := zb (f_S_isInMemory (a1 &&& (536870911 : Int32)))) (va_runS (As := [.int (a1 &&& (536870911 : Int32))]) (rest := []) ⟨hx, hb, hml, hown, hts⟩ (c_S_isInMemory l (a1 &&& (536870911 : Int32)) _ rfl) ⟨callB_of 1 hts (gw_in gw_163) rfl rfl rfl (hts _ gw_1) (hts _ gw_161) nh_S_isInMemory ⟨Nat.le_of_ble_eq_true rfl, Nat.le_of_ble_eq_true rfl⟩, (hts _ gw_162)⟩ my_preP rfl rfl hl.1 rfl (lv_room (Nat.le_of_ble_eq_true rfl)) nd_S_faultOfData_33 ⟨Nat.le_of_ble_eq_true rfl, Nat.le_of_ble_eq_true rfl⟩) hP hS (fun H locs hP hS => ?_)
    refine lv_if_eq (tgt := 43) hx hb nd_S_faultOfData_36 (by decide) (fun h36 => ?_) (fun h36 => ?_)
    · have hw := (if_pos h36).symm.trans hw
      refine lv_bipush (v := (7 : Int32)) hx hb nd_S_faultOfData_43 (by decide) ?_
      exact my_ri (u' := u) (v := (7 : Int32)) hx hb hr hlocks hK hP hD hS hw nd_S_faultOfData_45
    have hw := (if_neg h36).symm.trans hw
    refine lv_iconst (v := (-1 : Int32)) hx hb nd_S_faultOfData_39 (by decide) ?_
    refine lv_goto (tgt := 45) hx hb nd_S_faultOfData_40 (by decide) ?_
    exact my_ri (u' := u) (v := (-1 : Int32)) hx hb hr hlocks hK hP hD hS hw nd_S_faultOfData_45
  have hw := (if_neg h16).symm.trans hw
  exact J19 a1 a3 u H locs ls hP hD hS (lv_sub hl [0, 1, 3] rfl) hw
